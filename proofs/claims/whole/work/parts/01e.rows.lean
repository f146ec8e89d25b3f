theorem dX4_longest_38 : decode cX4_longest 38 = .ok (.imul, 1) := by decide +kernel
theorem dX4_longest_39 : decode cX4_longest 39 = .ok (.iload_n 1, 1) := by decide +kernel
theorem dX4_longest_40 : decode cX4_longest 40 = .ok (.iadd, 1) := by decide +kernel
theorem dX4_longest_41 : decode cX4_longest 41 = .ok (.istore_n 3, 1) := by decide +kernel
theorem dX4_longest_42 : decode cX4_longest 42 = .ok (.aload_n 0, 1) := by decide +kernel
theorem dX4_longest_43 : decode cX4_longest 43 = .ok (.iload_n 3, 1) := by decide +kernel
theorem dX4_longest_44 : decode cX4_longest 44 = .ok (.iload_n 2, 1) := by decide +kernel
theorem dX4_longest_45 : decode cX4_longest 45 = .ok (.invokevirtual 147, 3) := by decide +kernel
theorem dX4_longest_48 : decode cX4_longest 48 = .ok (.ifCond .eq 7, 3) := by decide +kernel
theorem dX4_longest_51 : decode cX4_longest 51 = .ok (.iload 5, 2) := by decide +kernel
theorem dX4_longest_53 : decode cX4_longest 53 = .ok (.istore 4, 2) := by decide +kernel
theorem dX4_longest_55 : decode cX4_longest 55 = .ok (.iinc 5 1, 3) := by decide +kernel
theorem dX4_longest_58 : decode cX4_longest 58 = .ok (.goto (-30), 3) := by decide +kernel
theorem dX4_longest_61 : decode cX4_longest 61 = .ok (.iload 4, 2) := by decide +kernel
theorem dX4_longest_63 : decode cX4_longest 63 = .ok (.ireturn, 1) := by decide +kernel
set_option maxRecDepth 20000 in
theorem ggX4_quickest_X4_isWord : GoodIn wsX4_quickest wsX4_isWord := goodIn_r _ [4, 5, 6, 7, 3, 8] (by decide +kernel) (by decide +kernel)
set_option maxRecDepth 20000 in
theorem gX4_quickest_X4_isWord : GoodIn wsX4_quickest (va_wsS RX4 151 yX4_isWord wsX4_isWord) := goodIn_app (goodIn_of _ (by decide +kernel)) ggX4_quickest_X4_isWord
set_option maxRecDepth 20000 in
theorem ggX4_quickest_X4_requireArgument : GoodIn wsX4_quickest wsX4_requireArgument := goodIn_ca (goodIn_r _ [11, 12, 13] (by decide +kernel) (by decide +kernel)) (goodIn_sub (fun _ h => List.mem_cons_of_mem _ (List.mem_append_right _ h)) (by decide +kernel))
set_option maxRecDepth 20000 in
theorem gX4_quickest_X4_requireArgument : GoodIn wsX4_quickest (va_wsS RX4 49 yX4_requireArgument wsX4_requireArgument) := goodIn_app (goodIn_of _ (by decide +kernel)) ggX4_quickest_X4_requireArgument
set_option maxRecDepth 20000 in
theorem ggX4_quickest_X4_wouldComeInOrder : GoodIn wsX4_quickest wsX4_wouldComeInOrder := goodIn_r _ [17, 18, 19, 20, 21, 22, 23, 24, 25, 26, 27, 3, 28, 29, 30, 31, 32, 33, 34, 35, 36, 37, 38, 39, 40, 41, 42, 43, 44, 45, 46, 47, 48, 49, 50, 51, 52, 53, 54, 55, 56, 57, 58, 59, 60, 61, 62, 63, 64, 65, 66, 67, 68, 69, 70, 71, 72, 73, 74, 75, 76, 77, 78, 79, 80, 81, 82, 83, 84, 85, 86, 87, 88, 89, 90, 91, 92, 93, 94, 95, 96, 97, 98, 99, 100, 101, 102, 103, 104, 105, 106, 107, 108, 109, 7, 8, 110, 111, 112, 113, 114, 115, 116, 117, 118, 119, 120, 121, 122, 123, 124, 125, 126, 127, 128, 129, 130, 131, 132, 133, 134, 135, 136, 137, 138, 139, 140, 141, 142, 143, 144, 145, 146, 147, 148, 149, 150, 151, 152, 153, 154, 155, 156, 157, 158, 159, 160, 161, 162, 163, 164, 165, 166, 167, 168, 169, 170, 171, 172, 173, 174, 175, 176, 177, 178, 179, 180, 181, 182, 183, 184, 185, 186, 187, 188, 189, 190, 191, 192, 193, 194, 195, 196, 197, 198, 199, 200] (by decide +kernel) (by decide +kernel)
set_option maxRecDepth 20000 in
theorem gX4_quickest_X4_wouldComeInOrder : GoodIn wsX4_quickest (wsV RX4 147 RX4 yX4_wouldComeInOrder wsX4_wouldComeInOrder) := goodIn_app (goodIn_of _ (by decide +kernel)) ggX4_quickest_X4_wouldComeInOrder
theorem dX4_quickest_0 : decode cX4_quickest 0 = .ok (.iload_n 1, 1) := by decide +kernel
theorem dX4_quickest_1 : decode cX4_quickest 1 = .ok (.invokestatic 151, 3) := by decide +kernel
theorem dX4_quickest_4 : decode cX4_quickest 4 = .ok (.invokestatic 49, 3) := by decide +kernel
theorem dX4_quickest_7 : decode cX4_quickest 7 = .ok (.iconst 1, 1) := by decide +kernel
theorem dX4_quickest_8 : decode cX4_quickest 8 = .ok (.istore_n 2, 1) := by decide +kernel
theorem dX4_quickest_9 : decode cX4_quickest 9 = .ok (.iload_n 2, 1) := by decide +kernel
theorem dX4_quickest_10 : decode cX4_quickest 10 = .ok (.bipush 20, 2) := by decide +kernel
theorem dX4_quickest_12 : decode cX4_quickest 12 = .ok (.if_icmp .gt 20, 3) := by decide +kernel
theorem dX4_quickest_15 : decode cX4_quickest 15 = .ok (.aload_n 0, 1) := by decide +kernel
theorem dX4_quickest_16 : decode cX4_quickest 16 = .ok (.iload_n 1, 1) := by decide +kernel
theorem dX4_quickest_17 : decode cX4_quickest 17 = .ok (.iload_n 2, 1) := by decide +kernel
theorem dX4_quickest_18 : decode cX4_quickest 18 = .ok (.invokevirtual 147, 3) := by decide +kernel
theorem dX4_quickest_21 : decode cX4_quickest 21 = .ok (.ifCond .eq 5, 3) := by decide +kernel
theorem dX4_quickest_24 : decode cX4_quickest 24 = .ok (.iload_n 2, 1) := by decide +kernel
theorem dX4_quickest_25 : decode cX4_quickest 25 = .ok (.ireturn, 1) := by decide +kernel
theorem dX4_quickest_26 : decode cX4_quickest 26 = .ok (.iinc 2 1, 3) := by decide +kernel
theorem dX4_quickest_29 : decode cX4_quickest 29 = .ok (.goto (-20), 3) := by decide +kernel
theorem dX4_quickest_32 : decode cX4_quickest 32 = .ok (.iconst (-1), 1) := by decide +kernel
theorem dX4_quickest_33 : decode cX4_quickest 33 = .ok (.ireturn, 1) := by decide +kernel
set_option maxRecDepth 20000 in
theorem ggX4_way_X0_hasChamber : GoodIn wsX4_way wsX0_hasChamber := goodIn_r _ [6, 7, 8, 9, 10, 46, 47, 48, 49, 50, 51, 52, 53, 54, 55, 56, 57, 58, 59, 60] (by decide +kernel) (by decide +kernel)
set_option maxRecDepth 20000 in
theorem gX4_way_X0_hasChamber : GoodIn wsX4_way (wsV RX4 67 RX0 yX0_hasChamber wsX0_hasChamber) := goodIn_app (goodIn_of _ (by decide +kernel)) ggX4_way_X0_hasChamber
set_option maxRecDepth 20000 in
theorem ggX4_way_X4_requireIndex : GoodIn wsX4_way wsX4_requireIndex := goodIn_ca (goodIn_r _ [13, 14, 15] (by decide +kernel) (by decide +kernel)) (goodIn_sub (fun _ h => List.mem_cons_of_mem _ (List.mem_append_right _ h)) (by decide +kernel))
set_option maxRecDepth 20000 in
theorem gX4_way_X4_requireIndex : GoodIn wsX4_way (va_wsS RX4 71 yX4_requireIndex wsX4_requireIndex) := goodIn_app (goodIn_of _ (by decide +kernel)) ggX4_way_X4_requireIndex
set_option maxRecDepth 20000 in
theorem ggX4_way_X0_shortestWay : GoodIn wsX4_way wsX0_shortestWay := goodIn_r _ [19, 20, 7, 21, 22, 23, 24, 25, 26, 27, 28, 29, 30, 31, 5, 32, 33, 34, 35, 36, 37, 38, 46, 47, 48, 49, 50, 51, 52, 53, 54, 55, 56, 57, 58, 59, 60] (by decide +kernel) (by decide +kernel)
set_option maxRecDepth 20000 in
theorem gX4_way_X0_shortestWay : GoodIn wsX4_way (wsV RX4 154 RX0 yX0_shortestWay wsX0_shortestWay) := goodIn_app (goodIn_of _ (by decide +kernel)) ggX4_way_X0_shortestWay
theorem dX4_way_0 : decode cX4_way 0 = .ok (.aload_n 0, 1) := by decide +kernel
theorem dX4_way_1 : decode cX4_way 1 = .ok (.getfield 12, 3) := by decide +kernel
theorem dX4_way_4 : decode cX4_way 4 = .ok (.iload_n 1, 1) := by decide +kernel
theorem dX4_way_5 : decode cX4_way 5 = .ok (.invokevirtual 67, 3) := by decide +kernel
theorem dX4_way_8 : decode cX4_way 8 = .ok (.invokestatic 71, 3) := by decide +kernel
theorem dX4_way_11 : decode cX4_way 11 = .ok (.aload_n 0, 1) := by decide +kernel
theorem dX4_way_12 : decode cX4_way 12 = .ok (.getfield 12, 3) := by decide +kernel
theorem dX4_way_15 : decode cX4_way 15 = .ok (.iload_n 2, 1) := by decide +kernel
theorem dX4_way_16 : decode cX4_way 16 = .ok (.invokevirtual 67, 3) := by decide +kernel
theorem dX4_way_19 : decode cX4_way 19 = .ok (.invokestatic 71, 3) := by decide +kernel
theorem dX4_way_22 : decode cX4_way 22 = .ok (.aload_n 0, 1) := by decide +kernel
theorem dX4_way_23 : decode cX4_way 23 = .ok (.getfield 12, 3) := by decide +kernel
theorem dX4_way_26 : decode cX4_way 26 = .ok (.iload_n 1, 1) := by decide +kernel
theorem dX4_way_27 : decode cX4_way 27 = .ok (.iload_n 2, 1) := by decide +kernel
theorem dX4_way_28 : decode cX4_way 28 = .ok (.invokevirtual 154, 3) := by decide +kernel
theorem dX4_way_31 : decode cX4_way 31 = .ok (.ireturn, 1) := by decide +kernel
set_option maxRecDepth 20000 in
theorem ggX4_highest_X0_hasChamber : GoodIn wsX4_highest wsX0_hasChamber := goodIn_r _ [6, 7, 8, 9, 10, 47, 48, 49, 50, 51, 52, 53, 54, 55, 56, 57, 58, 59, 60, 61] (by decide +kernel) (by decide +kernel)
set_option maxRecDepth 20000 in
theorem gX4_highest_X0_hasChamber : GoodIn wsX4_highest (wsV RX4 67 RX0 yX0_hasChamber wsX0_hasChamber) := goodIn_app (goodIn_of _ (by decide +kernel)) ggX4_highest_X0_hasChamber
set_option maxRecDepth 20000 in
theorem ggX4_highest_X4_requireIndex : GoodIn wsX4_highest wsX4_requireIndex := goodIn_ca (goodIn_r _ [13, 14, 15] (by decide +kernel) (by decide +kernel)) (goodIn_sub (fun _ h => List.mem_cons_of_mem _ (List.mem_append_right _ h)) (by decide +kernel))
set_option maxRecDepth 20000 in
theorem gX4_highest_X4_requireIndex : GoodIn wsX4_highest (va_wsS RX4 71 yX4_requireIndex wsX4_requireIndex) := goodIn_app (goodIn_of _ (by decide +kernel)) ggX4_highest_X4_requireIndex
set_option maxRecDepth 20000 in
theorem ggX4_highest_X0_highestWater : GoodIn wsX4_highest wsX0_highestWater := goodIn_r _ [19, 20, 7, 21, 22, 23, 24, 25, 26, 27, 28, 29, 30, 5, 31, 32, 33, 34, 35, 36, 37, 38, 39, 47, 48, 49, 50, 51, 52, 53, 54, 55, 56, 57, 58, 59, 60, 61] (by decide +kernel) (by decide +kernel)
set_option maxRecDepth 20000 in
theorem gX4_highest_X0_highestWater : GoodIn wsX4_highest (wsV RX4 157 RX0 yX0_highestWater wsX0_highestWater) := goodIn_app (goodIn_of _ (by decide +kernel)) ggX4_highest_X0_highestWater
theorem dX4_highest_0 : decode cX4_highest 0 = .ok (.aload_n 0, 1) := by decide +kernel
theorem dX4_highest_1 : decode cX4_highest 1 = .ok (.getfield 12, 3) := by decide +kernel
theorem dX4_highest_4 : decode cX4_highest 4 = .ok (.iload_n 1, 1) := by decide +kernel
theorem dX4_highest_5 : decode cX4_highest 5 = .ok (.invokevirtual 67, 3) := by decide +kernel
theorem dX4_highest_8 : decode cX4_highest 8 = .ok (.invokestatic 71, 3) := by decide +kernel
theorem dX4_highest_11 : decode cX4_highest 11 = .ok (.aload_n 0, 1) := by decide +kernel
theorem dX4_highest_12 : decode cX4_highest 12 = .ok (.getfield 12, 3) := by decide +kernel
theorem dX4_highest_15 : decode cX4_highest 15 = .ok (.iload_n 1, 1) := by decide +kernel
theorem dX4_highest_16 : decode cX4_highest 16 = .ok (.invokevirtual 157, 3) := by decide +kernel
theorem dX4_highest_19 : decode cX4_highest 19 = .ok (.ireturn, 1) := by decide +kernel
set_option maxRecDepth 20000 in
theorem ggX4_mean_X2_meanStrength : GoodIn wsX4_mean wsX2_meanStrength := goodIn_r _ [6, 7, 8, 9, 10, 5, 11, 12, 20, 21, 22, 23, 24, 25, 26, 27] (by decide +kernel) (by decide +kernel)
set_option maxRecDepth 20000 in
theorem gX4_mean_X2_meanStrength : GoodIn wsX4_mean (wsV RX4 160 RX2 yX2_meanStrength wsX2_meanStrength) := goodIn_app (goodIn_of _ (by decide +kernel)) ggX4_mean_X2_meanStrength
theorem dX4_mean_0 : decode cX4_mean 0 = .ok (.aload_n 0, 1) := by decide +kernel
theorem dX4_mean_1 : decode cX4_mean 1 = .ok (.getfield 28, 3) := by decide +kernel
theorem dX4_mean_4 : decode cX4_mean 4 = .ok (.invokevirtual 160, 3) := by decide +kernel
theorem dX4_mean_7 : decode cX4_mean 7 = .ok (.dreturn, 1) := by decide +kernel
set_option maxRecDepth 20000 in
theorem ggX4_digest_X4_countFact : GoodIn wsX4_digest wsX4_countFact := goodIn_r _ [9, 3, 10, 11, 12, 4, 13, 14, 15, 16, 17, 18, 19, 20, 21, 22, 23, 24, 25, 26, 27, 28, 29, 30, 31, 32, 64, 65, 66, 67, 68, 69, 70, 71, 72, 73, 74, 75, 76, 77, 78, 79, 80, 81, 82, 83, 84, 85, 86, 87, 88, 89, 90, 91, 92, 93] (by decide +kernel) (by decide +kernel)
set_option maxRecDepth 20000 in
theorem gX4_digest_X4_countFact : GoodIn wsX4_digest (wsV RX4 134 RX4 yX4_countFact wsX4_countFact) := goodIn_app (goodIn_of _ (by decide +kernel)) ggX4_digest_X4_countFact
set_option maxRecDepth 20000 in
theorem ggX4_digest_X0_chamberFact : GoodIn wsX4_digest wsX0_chamberFact := goodIn_r _ [36, 37, 23, 38, 32, 39, 40, 41, 42, 43, 16, 44, 45, 19, 20, 21, 22, 24, 25, 26, 71, 72, 73, 74, 75, 76, 77, 78, 79, 80, 81, 82, 83, 84, 85] (by decide +kernel) (by decide +kernel)
set_option maxRecDepth 20000 in
theorem gX4_digest_X0_chamberFact : GoodIn wsX4_digest (wsV RX4 97 RX0 yX0_chamberFact wsX0_chamberFact) := goodIn_app (goodIn_of _ (by decide +kernel)) ggX4_digest_X0_chamberFact
set_option maxRecDepth 20000 in
theorem ggX4_digest_X0_passageFact : GoodIn wsX4_digest wsX0_passageFact := goodIn_r _ [49, 24, 26, 50, 51, 19, 20, 21, 16, 22, 23, 25, 71, 72, 73, 74, 75, 76, 77, 78, 79, 80, 81, 82, 83, 84, 85] (by decide +kernel) (by decide +kernel)
set_option maxRecDepth 20000 in
theorem gX4_digest_X0_passageFact : GoodIn wsX4_digest (wsV RX4 104 RX0 yX0_passageFact wsX0_passageFact) := goodIn_app (goodIn_of _ (by decide +kernel)) ggX4_digest_X0_passageFact
set_option maxRecDepth 20000 in
theorem ggX4_digest_X2_heardFact : GoodIn wsX4_digest wsX2_heardFact := goodIn_r _ [56, 57, 86, 87, 88, 89, 90, 91, 92, 93] (by decide +kernel) (by decide +kernel)
set_option maxRecDepth 20000 in
theorem gX4_digest_X2_heardFact : GoodIn wsX4_digest (wsV RX4 121 RX2 yX2_heardFact wsX2_heardFact) := goodIn_app (goodIn_of _ (by decide +kernel)) ggX4_digest_X2_heardFact
set_option maxRecDepth 20000 in
theorem ggX4_digest_X2_cameInOrder : GoodIn wsX4_digest wsX2_cameInOrder := goodIn_r _ [61, 62, 63, 86, 87, 88, 89, 90, 91, 92, 93] (by decide +kernel) (by decide +kernel)
set_option maxRecDepth 20000 in
theorem gX4_digest_X2_cameInOrder : GoodIn wsX4_digest (wsV RX4 124 RX2 yX2_cameInOrder wsX2_cameInOrder) := goodIn_app (goodIn_of _ (by decide +kernel)) ggX4_digest_X2_cameInOrder
theorem dX4_digest_0 : decode cX4_digest 0 = .ok (.ldc2_w 164, 3) := by decide +kernel
theorem dX4_digest_3 : decode cX4_digest 3 = .ok (.lstore_n 1, 1) := by decide +kernel
theorem dX4_digest_4 : decode cX4_digest 4 = .ok (.iconst 0, 1) := by decide +kernel
theorem dX4_digest_5 : decode cX4_digest 5 = .ok (.istore_n 3, 1) := by decide +kernel
theorem dX4_digest_6 : decode cX4_digest 6 = .ok (.iload_n 3, 1) := by decide +kernel
theorem dX4_digest_7 : decode cX4_digest 7 = .ok (.bipush 10, 2) := by decide +kernel
theorem dX4_digest_9 : decode cX4_digest 9 = .ok (.if_icmp .ge 22, 3) := by decide +kernel
theorem dX4_digest_12 : decode cX4_digest 12 = .ok (.lload_n 1, 1) := by decide +kernel
theorem dX4_digest_13 : decode cX4_digest 13 = .ok (.ldc2_w 166, 3) := by decide +kernel
theorem dX4_digest_16 : decode cX4_digest 16 = .ok (.lmul, 1) := by decide +kernel
theorem dX4_digest_17 : decode cX4_digest 17 = .ok (.aload_n 0, 1) := by decide +kernel
theorem dX4_digest_18 : decode cX4_digest 18 = .ok (.iload_n 3, 1) := by decide +kernel
theorem dX4_digest_19 : decode cX4_digest 19 = .ok (.invokevirtual 134, 3) := by decide +kernel
theorem dX4_digest_22 : decode cX4_digest 22 = .ok (.i2l, 1) := by decide +kernel
theorem dX4_digest_23 : decode cX4_digest 23 = .ok (.ladd, 1) := by decide +kernel
theorem dX4_digest_24 : decode cX4_digest 24 = .ok (.lstore_n 1, 1) := by decide +kernel
theorem dX4_digest_25 : decode cX4_digest 25 = .ok (.iinc 3 1, 3) := by decide +kernel
theorem dX4_digest_28 : decode cX4_digest 28 = .ok (.goto (-22), 3) := by decide +kernel
theorem dX4_digest_31 : decode cX4_digest 31 = .ok (.iconst 0, 1) := by decide +kernel
theorem dX4_digest_32 : decode cX4_digest 32 = .ok (.istore_n 3, 1) := by decide +kernel
theorem dX4_digest_33 : decode cX4_digest 33 = .ok (.iload_n 3, 1) := by decide +kernel
theorem dX4_digest_34 : decode cX4_digest 34 = .ok (.aload_n 0, 1) := by decide +kernel
theorem dX4_digest_35 : decode cX4_digest 35 = .ok (.getfield 12, 3) := by decide +kernel
theorem dX4_digest_38 : decode cX4_digest 38 = .ok (.getfield 53, 3) := by decide +kernel
theorem dX4_digest_41 : decode cX4_digest 41 = .ok (.if_icmp .ge 43, 3) := by decide +kernel
theorem dX4_digest_44 : decode cX4_digest 44 = .ok (.iconst 0, 1) := by decide +kernel
theorem dX4_digest_45 : decode cX4_digest 45 = .ok (.istore 4, 2) := by decide +kernel
theorem dX4_digest_47 : decode cX4_digest 47 = .ok (.iload 4, 2) := by decide +kernel
theorem dX4_digest_49 : decode cX4_digest 49 = .ok (.bipush 7, 2) := by decide +kernel
theorem dX4_digest_51 : decode cX4_digest 51 = .ok (.if_icmp .ge 27, 3) := by decide +kernel
theorem dX4_digest_54 : decode cX4_digest 54 = .ok (.lload_n 1, 1) := by decide +kernel
theorem dX4_digest_55 : decode cX4_digest 55 = .ok (.ldc2_w 166, 3) := by decide +kernel
theorem dX4_digest_58 : decode cX4_digest 58 = .ok (.lmul, 1) := by decide +kernel
theorem dX4_digest_59 : decode cX4_digest 59 = .ok (.aload_n 0, 1) := by decide +kernel
theorem dX4_digest_60 : decode cX4_digest 60 = .ok (.getfield 12, 3) := by decide +kernel
theorem dX4_digest_63 : decode cX4_digest 63 = .ok (.iload_n 3, 1) := by decide +kernel
theorem dX4_digest_64 : decode cX4_digest 64 = .ok (.iload 4, 2) := by decide +kernel
theorem dX4_digest_66 : decode cX4_digest 66 = .ok (.invokevirtual 97, 3) := by decide +kernel
theorem dX4_digest_69 : decode cX4_digest 69 = .ok (.i2l, 1) := by decide +kernel
theorem dX4_digest_70 : decode cX4_digest 70 = .ok (.ladd, 1) := by decide +kernel
theorem dX4_digest_71 : decode cX4_digest 71 = .ok (.lstore_n 1, 1) := by decide +kernel
theorem dX4_digest_72 : decode cX4_digest 72 = .ok (.iinc 4 1, 3) := by decide +kernel
theorem dX4_digest_75 : decode cX4_digest 75 = .ok (.goto (-28), 3) := by decide +kernel
theorem dX4_digest_78 : decode cX4_digest 78 = .ok (.iinc 3 1, 3) := by decide +kernel
theorem dX4_digest_81 : decode cX4_digest 81 = .ok (.goto (-48), 3) := by decide +kernel
theorem dX4_digest_84 : decode cX4_digest 84 = .ok (.iconst 0, 1) := by decide +kernel
theorem dX4_digest_85 : decode cX4_digest 85 = .ok (.istore_n 3, 1) := by decide +kernel
theorem dX4_digest_86 : decode cX4_digest 86 = .ok (.iload_n 3, 1) := by decide +kernel
theorem dX4_digest_87 : decode cX4_digest 87 = .ok (.aload_n 0, 1) := by decide +kernel
theorem dX4_digest_88 : decode cX4_digest 88 = .ok (.getfield 12, 3) := by decide +kernel
theorem dX4_digest_91 : decode cX4_digest 91 = .ok (.getfield 74, 3) := by decide +kernel
theorem dX4_digest_94 : decode cX4_digest 94 = .ok (.if_icmp .ge 42, 3) := by decide +kernel
theorem dX4_digest_97 : decode cX4_digest 97 = .ok (.iconst 0, 1) := by decide +kernel
theorem dX4_digest_98 : decode cX4_digest 98 = .ok (.istore 4, 2) := by decide +kernel
theorem dX4_digest_100 : decode cX4_digest 100 = .ok (.iload 4, 2) := by decide +kernel
theorem dX4_digest_102 : decode cX4_digest 102 = .ok (.iconst 5, 1) := by decide +kernel
theorem dX4_digest_103 : decode cX4_digest 103 = .ok (.if_icmp .ge 27, 3) := by decide +kernel
theorem dX4_digest_106 : decode cX4_digest 106 = .ok (.lload_n 1, 1) := by decide +kernel
theorem dX4_digest_107 : decode cX4_digest 107 = .ok (.ldc2_w 166, 3) := by decide +kernel
theorem dX4_digest_110 : decode cX4_digest 110 = .ok (.lmul, 1) := by decide +kernel
theorem dX4_digest_111 : decode cX4_digest 111 = .ok (.aload_n 0, 1) := by decide +kernel
theorem dX4_digest_112 : decode cX4_digest 112 = .ok (.getfield 12, 3) := by decide +kernel
theorem dX4_digest_115 : decode cX4_digest 115 = .ok (.iload_n 3, 1) := by decide +kernel
theorem dX4_digest_116 : decode cX4_digest 116 = .ok (.iload 4, 2) := by decide +kernel
theorem dX4_digest_118 : decode cX4_digest 118 = .ok (.invokevirtual 104, 3) := by decide +kernel
theorem dX4_digest_121 : decode cX4_digest 121 = .ok (.i2l, 1) := by decide +kernel
theorem dX4_digest_122 : decode cX4_digest 122 = .ok (.ladd, 1) := by decide +kernel
theorem dX4_digest_123 : decode cX4_digest 123 = .ok (.lstore_n 1, 1) := by decide +kernel
theorem dX4_digest_124 : decode cX4_digest 124 = .ok (.iinc 4 1, 3) := by decide +kernel
theorem dX4_digest_127 : decode cX4_digest 127 = .ok (.goto (-27), 3) := by decide +kernel
theorem dX4_digest_130 : decode cX4_digest 130 = .ok (.iinc 3 1, 3) := by decide +kernel
theorem dX4_digest_133 : decode cX4_digest 133 = .ok (.goto (-47), 3) := by decide +kernel
theorem dX4_digest_136 : decode cX4_digest 136 = .ok (.iconst 0, 1) := by decide +kernel
theorem dX4_digest_137 : decode cX4_digest 137 = .ok (.istore_n 3, 1) := by decide +kernel
theorem dX4_digest_138 : decode cX4_digest 138 = .ok (.iload_n 3, 1) := by decide +kernel
theorem dX4_digest_139 : decode cX4_digest 139 = .ok (.aload_n 0, 1) := by decide +kernel
theorem dX4_digest_140 : decode cX4_digest 140 = .ok (.getfield 28, 3) := by decide +kernel
theorem dX4_digest_143 : decode cX4_digest 143 = .ok (.getfield 118, 3) := by decide +kernel
theorem dX4_digest_146 : decode cX4_digest 146 = .ok (.if_icmp .ge 42, 3) := by decide +kernel
theorem dX4_digest_149 : decode cX4_digest 149 = .ok (.iconst 0, 1) := by decide +kernel
theorem dX4_digest_150 : decode cX4_digest 150 = .ok (.istore 4, 2) := by decide +kernel
theorem dX4_digest_152 : decode cX4_digest 152 = .ok (.iload 4, 2) := by decide +kernel
theorem dX4_digest_154 : decode cX4_digest 154 = .ok (.iconst 5, 1) := by decide +kernel
theorem dX4_digest_155 : decode cX4_digest 155 = .ok (.if_icmp .ge 27, 3) := by decide +kernel
theorem dX4_digest_158 : decode cX4_digest 158 = .ok (.lload_n 1, 1) := by decide +kernel
theorem dX4_digest_159 : decode cX4_digest 159 = .ok (.ldc2_w 166, 3) := by decide +kernel
theorem dX4_digest_162 : decode cX4_digest 162 = .ok (.lmul, 1) := by decide +kernel
theorem dX4_digest_163 : decode cX4_digest 163 = .ok (.aload_n 0, 1) := by decide +kernel
theorem dX4_digest_164 : decode cX4_digest 164 = .ok (.getfield 28, 3) := by decide +kernel
theorem dX4_digest_167 : decode cX4_digest 167 = .ok (.iload_n 3, 1) := by decide +kernel
theorem dX4_digest_168 : decode cX4_digest 168 = .ok (.iload 4, 2) := by decide +kernel
theorem dX4_digest_170 : decode cX4_digest 170 = .ok (.invokevirtual 121, 3) := by decide +kernel
theorem dX4_digest_173 : decode cX4_digest 173 = .ok (.i2l, 1) := by decide +kernel
theorem dX4_digest_174 : decode cX4_digest 174 = .ok (.ladd, 1) := by decide +kernel
theorem dX4_digest_175 : decode cX4_digest 175 = .ok (.lstore_n 1, 1) := by decide +kernel
theorem dX4_digest_176 : decode cX4_digest 176 = .ok (.iinc 4 1, 3) := by decide +kernel
theorem dX4_digest_179 : decode cX4_digest 179 = .ok (.goto (-27), 3) := by decide +kernel
theorem dX4_digest_182 : decode cX4_digest 182 = .ok (.iinc 3 1, 3) := by decide +kernel
theorem dX4_digest_185 : decode cX4_digest 185 = .ok (.goto (-47), 3) := by decide +kernel
theorem dX4_digest_188 : decode cX4_digest 188 = .ok (.lload_n 1, 1) := by decide +kernel
theorem dX4_digest_189 : decode cX4_digest 189 = .ok (.ldc2_w 166, 3) := by decide +kernel
theorem dX4_digest_192 : decode cX4_digest 192 = .ok (.lmul, 1) := by decide +kernel
theorem dX4_digest_193 : decode cX4_digest 193 = .ok (.aload_n 0, 1) := by decide +kernel
theorem dX4_digest_194 : decode cX4_digest 194 = .ok (.getfield 28, 3) := by decide +kernel
theorem dX4_digest_197 : decode cX4_digest 197 = .ok (.invokevirtual 124, 3) := by decide +kernel
theorem dX4_digest_200 : decode cX4_digest 200 = .ok (.ifCond .eq 7, 3) := by decide +kernel
theorem dX4_digest_203 : decode cX4_digest 203 = .ok (.iconst 1, 1) := by decide +kernel
theorem dX4_digest_204 : decode cX4_digest 204 = .ok (.goto 4, 3) := by decide +kernel
theorem dX4_digest_207 : decode cX4_digest 207 = .ok (.iconst 0, 1) := by decide +kernel
theorem dX4_digest_208 : decode cX4_digest 208 = .ok (.i2l, 1) := by decide +kernel
theorem dX4_digest_209 : decode cX4_digest 209 = .ok (.ladd, 1) := by decide +kernel
theorem dX4_digest_210 : decode cX4_digest 210 = .ok (.lreturn, 1) := by decide +kernel
set_option maxRecDepth 20000 in
theorem ggX4_countFact_X0_openPassages : GoodIn wsX4_countFact wsX0_openPassages := goodIn_r _ [10, 11, 12, 13, 14, 9, 15, 16, 17, 18, 19, 33, 34, 35, 36, 37, 38, 39, 40, 41, 42, 43, 44, 45, 46, 47] (by decide +kernel) (by decide +kernel)
set_option maxRecDepth 20000 in
theorem gX4_countFact_X0_openPassages : GoodIn wsX4_countFact (wsV RX4 168 RX0 yX0_openPassages wsX0_openPassages) := goodIn_app (goodIn_of _ (by decide +kernel)) ggX4_countFact_X0_openPassages
set_option maxRecDepth 20000 in
theorem ggX4_countFact_X0_clappers : GoodIn wsX4_countFact wsX0_clappers := goodIn_r _ [23, 24, 25, 33, 34, 35, 36, 37, 38, 39, 40, 41, 42, 43, 44, 45, 46, 47] (by decide +kernel) (by decide +kernel)
set_option maxRecDepth 20000 in
theorem gX4_countFact_X0_clappers : GoodIn wsX4_countFact (wsV RX4 172 RX0 yX0_clappers wsX0_clappers) := goodIn_app (goodIn_of _ (by decide +kernel)) ggX4_countFact_X0_clappers
theorem dX4_countFact_0 : decode cX4_countFact 0 = .ok (.iload_n 1, 1) := by decide +kernel
theorem dX4_countFact_1 : decode cX4_countFact 1 = .ok (.tableswitch 114 0 8 #[51, 59, 67, 75, 83, 91, 96, 101, 106], 51) := by decide +kernel
theorem dX4_countFact_52 : decode cX4_countFact 52 = .ok (.aload_n 0, 1) := by decide +kernel
theorem dX4_countFact_53 : decode cX4_countFact 53 = .ok (.getfield 12, 3) := by decide +kernel
theorem dX4_countFact_56 : decode cX4_countFact 56 = .ok (.getfield 53, 3) := by decide +kernel
theorem dX4_countFact_59 : decode cX4_countFact 59 = .ok (.ireturn, 1) := by decide +kernel
theorem dX4_countFact_60 : decode cX4_countFact 60 = .ok (.aload_n 0, 1) := by decide +kernel
theorem dX4_countFact_61 : decode cX4_countFact 61 = .ok (.getfield 12, 3) := by decide +kernel
theorem dX4_countFact_64 : decode cX4_countFact 64 = .ok (.getfield 74, 3) := by decide +kernel
theorem dX4_countFact_67 : decode cX4_countFact 67 = .ok (.ireturn, 1) := by decide +kernel
theorem dX4_countFact_68 : decode cX4_countFact 68 = .ok (.aload_n 0, 1) := by decide +kernel
theorem dX4_countFact_69 : decode cX4_countFact 69 = .ok (.getfield 12, 3) := by decide +kernel
theorem dX4_countFact_72 : decode cX4_countFact 72 = .ok (.invokevirtual 168, 3) := by decide +kernel
theorem dX4_countFact_75 : decode cX4_countFact 75 = .ok (.ireturn, 1) := by decide +kernel
theorem dX4_countFact_76 : decode cX4_countFact 76 = .ok (.aload_n 0, 1) := by decide +kernel
theorem dX4_countFact_77 : decode cX4_countFact 77 = .ok (.getfield 12, 3) := by decide +kernel
theorem dX4_countFact_80 : decode cX4_countFact 80 = .ok (.invokevirtual 172, 3) := by decide +kernel
theorem dX4_countFact_83 : decode cX4_countFact 83 = .ok (.ireturn, 1) := by decide +kernel
theorem dX4_countFact_84 : decode cX4_countFact 84 = .ok (.aload_n 0, 1) := by decide +kernel
theorem dX4_countFact_85 : decode cX4_countFact 85 = .ok (.getfield 12, 3) := by decide +kernel
theorem dX4_countFact_88 : decode cX4_countFact 88 = .ok (.getfield 83, 3) := by decide +kernel
theorem dX4_countFact_91 : decode cX4_countFact 91 = .ok (.ireturn, 1) := by decide +kernel
theorem dX4_countFact_92 : decode cX4_countFact 92 = .ok (.aload_n 0, 1) := by decide +kernel
theorem dX4_countFact_93 : decode cX4_countFact 93 = .ok (.getfield 35, 3) := by decide +kernel
theorem dX4_countFact_96 : decode cX4_countFact 96 = .ok (.ireturn, 1) := by decide +kernel
theorem dX4_countFact_97 : decode cX4_countFact 97 = .ok (.aload_n 0, 1) := by decide +kernel
theorem dX4_countFact_98 : decode cX4_countFact 98 = .ok (.getfield 39, 3) := by decide +kernel
theorem dX4_countFact_101 : decode cX4_countFact 101 = .ok (.ireturn, 1) := by decide +kernel
theorem dX4_countFact_102 : decode cX4_countFact 102 = .ok (.aload_n 0, 1) := by decide +kernel
theorem dX4_countFact_103 : decode cX4_countFact 103 = .ok (.getfield 42, 3) := by decide +kernel
theorem dX4_countFact_106 : decode cX4_countFact 106 = .ok (.ireturn, 1) := by decide +kernel
theorem dX4_countFact_107 : decode cX4_countFact 107 = .ok (.aload_n 0, 1) := by decide +kernel
theorem dX4_countFact_108 : decode cX4_countFact 108 = .ok (.getfield 28, 3) := by decide +kernel
theorem dX4_countFact_111 : decode cX4_countFact 111 = .ok (.getfield 118, 3) := by decide +kernel
theorem dX4_countFact_114 : decode cX4_countFact 114 = .ok (.ireturn, 1) := by decide +kernel
theorem dX4_countFact_115 : decode cX4_countFact 115 = .ok (.aload_n 0, 1) := by decide +kernel
theorem dX4_countFact_116 : decode cX4_countFact 116 = .ok (.getfield 28, 3) := by decide +kernel
theorem dX4_countFact_119 : decode cX4_countFact 119 = .ok (.getfield 115, 3) := by decide +kernel
theorem dX4_countFact_122 : decode cX4_countFact 122 = .ok (.ireturn, 1) := by decide +kernel
set_option maxRecDepth 20000 in
theorem ggX4_wouldComeInOrder_X3_runThrough : GoodIn wsX4_wouldComeInOrder wsX3_runThrough := goodIn_r _ [8, 9, 10, 11, 12, 13, 14, 15, 16, 17, 18, 19, 20, 21, 22, 23, 24, 25, 26, 27, 28, 29, 30, 31, 7, 32, 33, 34, 35, 36, 37, 38, 39, 40, 41, 42, 43, 44, 45, 46, 47, 48, 49, 50, 51, 52, 53, 54, 55, 56, 57, 58, 59, 60, 61, 62, 63, 64, 65, 66, 67, 68, 69, 70, 71, 72, 73, 74, 75, 76, 77, 78, 79, 80, 81, 82, 83, 84, 85, 86, 87, 88, 89, 90, 91, 92, 93, 94, 95, 96, 97, 98, 99, 100, 101, 102, 103, 104, 105, 106, 107, 108, 109, 110, 111, 112, 113, 114, 115, 116, 117, 118, 119, 120, 121, 122, 123, 124, 125, 126, 127, 128, 129, 130, 131, 132, 133, 134, 135, 136, 137, 138, 139, 140, 141, 142, 143, 155, 156, 157, 158, 159, 160, 161, 162, 163, 164, 165, 166, 167, 168, 169, 170, 171, 172, 173, 174, 175, 176, 177, 178, 179, 180, 181, 182, 183, 184, 185, 186] (by decide +kernel) (by decide +kernel)
set_option maxRecDepth 20000 in
theorem gX4_wouldComeInOrder_X3_runThrough : GoodIn wsX4_wouldComeInOrder (wsV RX4 111 RX3 yX3_runThrough wsX3_runThrough) := goodIn_app (goodIn_of _ (by decide +kernel)) ggX4_wouldComeInOrder_X3_runThrough
set_option maxRecDepth 20000 in
theorem ggX4_wouldComeInOrder_X2_cameInOrder : GoodIn wsX4_wouldComeInOrder wsX2_cameInOrder := goodIn_r _ [147, 18, 22, 162, 163, 164, 165, 166, 167, 168, 169] (by decide +kernel) (by decide +kernel)
set_option maxRecDepth 20000 in
theorem gX4_wouldComeInOrder_X2_cameInOrder : GoodIn wsX4_wouldComeInOrder (wsV RX4 124 RX2 yX2_cameInOrder wsX2_cameInOrder) := goodIn_app (goodIn_of _ (by decide +kernel)) ggX4_wouldComeInOrder_X2_cameInOrder
theorem dX4_wouldComeInOrder_0 : decode cX4_wouldComeInOrder 0 = .ok (.aload_n 0, 1) := by decide +kernel
theorem dX4_wouldComeInOrder_1 : decode cX4_wouldComeInOrder 1 = .ok (.getfield 21, 3) := by decide +kernel
theorem dX4_wouldComeInOrder_4 : decode cX4_wouldComeInOrder 4 = .ok (.iload_n 1, 1) := by decide +kernel
theorem dX4_wouldComeInOrder_5 : decode cX4_wouldComeInOrder 5 = .ok (.iload_n 2, 1) := by decide +kernel
theorem dX4_wouldComeInOrder_6 : decode cX4_wouldComeInOrder 6 = .ok (.aload_n 0, 1) := by decide +kernel
theorem dX4_wouldComeInOrder_7 : decode cX4_wouldComeInOrder 7 = .ok (.getfield 35, 3) := by decide +kernel
theorem dX4_wouldComeInOrder_10 : decode cX4_wouldComeInOrder 10 = .ok (.aload_n 0, 1) := by decide +kernel
theorem dX4_wouldComeInOrder_11 : decode cX4_wouldComeInOrder 11 = .ok (.getfield 32, 3) := by decide +kernel
theorem dX4_wouldComeInOrder_14 : decode cX4_wouldComeInOrder 14 = .ok (.invokevirtual 111, 3) := by decide +kernel
theorem dX4_wouldComeInOrder_17 : decode cX4_wouldComeInOrder 17 = .ok (.aload_n 0, 1) := by decide +kernel
theorem dX4_wouldComeInOrder_18 : decode cX4_wouldComeInOrder 18 = .ok (.getfield 32, 3) := by decide +kernel
theorem dX4_wouldComeInOrder_21 : decode cX4_wouldComeInOrder 21 = .ok (.invokevirtual 124, 3) := by decide +kernel
theorem dX4_wouldComeInOrder_24 : decode cX4_wouldComeInOrder 24 = .ok (.ireturn, 1) := by decide +kernel
theorem dX4_isWithin_0 : decode cX4_isWithin 0 = .ok (.iload_n 1, 1) := by decide +kernel
theorem dX4_isWithin_1 : decode cX4_isWithin 1 = .ok (.iload_n 0, 1) := by decide +kernel
theorem dX4_isWithin_2 : decode cX4_isWithin 2 = .ok (.if_icmp .gt 12, 3) := by decide +kernel
theorem dX4_isWithin_5 : decode cX4_isWithin 5 = .ok (.iload_n 0, 1) := by decide +kernel
theorem dX4_isWithin_6 : decode cX4_isWithin 6 = .ok (.iload_n 2, 1) := by decide +kernel
theorem dX4_isWithin_7 : decode cX4_isWithin 7 = .ok (.if_icmp .gt 7, 3) := by decide +kernel
theorem dX4_isWithin_10 : decode cX4_isWithin 10 = .ok (.iconst 1, 1) := by decide +kernel
theorem dX4_isWithin_11 : decode cX4_isWithin 11 = .ok (.goto 4, 3) := by decide +kernel
theorem dX4_isWithin_14 : decode cX4_isWithin 14 = .ok (.iconst 0, 1) := by decide +kernel
theorem dX4_isWithin_15 : decode cX4_isWithin 15 = .ok (.ireturn, 1) := by decide +kernel
set_option maxRecDepth 20000 in
theorem ggX4_isWord_X4_isWithin : GoodIn wsX4_isWord wsX4_isWithin := goodIn_r _ [5] (by decide +kernel) (by decide +kernel)
set_option maxRecDepth 20000 in
theorem gX4_isWord_X4_isWithin : GoodIn wsX4_isWord (va_wsS RX4 45 yX4_isWithin wsX4_isWithin) := goodIn_app (goodIn_of _ (by decide +kernel)) ggX4_isWord_X4_isWithin
theorem dX4_isWord_0 : decode cX4_isWord 0 = .ok (.iload_n 0, 1) := by decide +kernel
theorem dX4_isWord_1 : decode cX4_isWord 1 = .ok (.iconst 1, 1) := by decide +kernel
theorem dX4_isWord_2 : decode cX4_isWord 2 = .ok (.ldc 175, 2) := by decide +kernel
theorem dX4_isWord_4 : decode cX4_isWord 4 = .ok (.invokestatic 45, 3) := by decide +kernel
theorem dX4_isWord_7 : decode cX4_isWord 7 = .ok (.ifCond .ne 5, 3) := by decide +kernel
theorem dX4_isWord_10 : decode cX4_isWord 10 = .ok (.iconst 0, 1) := by decide +kernel
theorem dX4_isWord_11 : decode cX4_isWord 11 = .ok (.ireturn, 1) := by decide +kernel
theorem dX4_isWord_12 : decode cX4_isWord 12 = .ok (.iload_n 0, 1) := by decide +kernel
theorem dX4_isWord_13 : decode cX4_isWord 13 = .ok (.istore_n 1, 1) := by decide +kernel
theorem dX4_isWord_14 : decode cX4_isWord 14 = .ok (.iload_n 1, 1) := by decide +kernel
theorem dX4_isWord_15 : decode cX4_isWord 15 = .ok (.ifCond .le 20, 3) := by decide +kernel
theorem dX4_isWord_18 : decode cX4_isWord 18 = .ok (.iload_n 1, 1) := by decide +kernel
theorem dX4_isWord_19 : decode cX4_isWord 19 = .ok (.bipush 10, 2) := by decide +kernel
theorem dX4_isWord_21 : decode cX4_isWord 21 = .ok (.irem, 1) := by decide +kernel
theorem dX4_isWord_22 : decode cX4_isWord 22 = .ok (.ifCond .ne 5, 3) := by decide +kernel
theorem dX4_isWord_25 : decode cX4_isWord 25 = .ok (.iconst 0, 1) := by decide +kernel
theorem dX4_isWord_26 : decode cX4_isWord 26 = .ok (.ireturn, 1) := by decide +kernel
theorem dX4_isWord_27 : decode cX4_isWord 27 = .ok (.iload_n 1, 1) := by decide +kernel
theorem dX4_isWord_28 : decode cX4_isWord 28 = .ok (.bipush 10, 2) := by decide +kernel
theorem dX4_isWord_30 : decode cX4_isWord 30 = .ok (.idiv, 1) := by decide +kernel
theorem dX4_isWord_31 : decode cX4_isWord 31 = .ok (.istore_n 1, 1) := by decide +kernel
theorem dX4_isWord_32 : decode cX4_isWord 32 = .ok (.goto (-18), 3) := by decide +kernel
theorem dX4_isWord_35 : decode cX4_isWord 35 = .ok (.iconst 1, 1) := by decide +kernel
theorem dX4_isWord_36 : decode cX4_isWord 36 = .ok (.ireturn, 1) := by decide +kernel
theorem dX4_placesOf_0 : decode cX4_placesOf 0 = .ok (.iconst 0, 1) := by decide +kernel
theorem dX4_placesOf_1 : decode cX4_placesOf 1 = .ok (.istore_n 1, 1) := by decide +kernel
theorem dX4_placesOf_2 : decode cX4_placesOf 2 = .ok (.iload_n 0, 1) := by decide +kernel
theorem dX4_placesOf_3 : decode cX4_placesOf 3 = .ok (.istore_n 2, 1) := by decide +kernel
theorem dX4_placesOf_4 : decode cX4_placesOf 4 = .ok (.iload_n 2, 1) := by decide +kernel
theorem dX4_placesOf_5 : decode cX4_placesOf 5 = .ok (.ifCond .le 20, 3) := by decide +kernel
theorem dX4_placesOf_8 : decode cX4_placesOf 8 = .ok (.iload_n 1, 1) := by decide +kernel
theorem dX4_placesOf_9 : decode cX4_placesOf 9 = .ok (.bipush 6, 2) := by decide +kernel
theorem dX4_placesOf_11 : decode cX4_placesOf 11 = .ok (.if_icmp .ge 14, 3) := by decide +kernel
theorem dX4_placesOf_14 : decode cX4_placesOf 14 = .ok (.iinc 1 1, 3) := by decide +kernel
theorem dX4_placesOf_17 : decode cX4_placesOf 17 = .ok (.iload_n 2, 1) := by decide +kernel
theorem dX4_placesOf_18 : decode cX4_placesOf 18 = .ok (.bipush 10, 2) := by decide +kernel
theorem dX4_placesOf_20 : decode cX4_placesOf 20 = .ok (.idiv, 1) := by decide +kernel
theorem dX4_placesOf_21 : decode cX4_placesOf 21 = .ok (.istore_n 2, 1) := by decide +kernel
theorem dX4_placesOf_22 : decode cX4_placesOf 22 = .ok (.goto (-18), 3) := by decide +kernel
theorem dX4_placesOf_25 : decode cX4_placesOf 25 = .ok (.iload_n 1, 1) := by decide +kernel
theorem dX4_placesOf_26 : decode cX4_placesOf 26 = .ok (.ireturn, 1) := by decide +kernel
theorem dX4_requireIndex_0 : decode cX4_requireIndex 0 = .ok (.iload_n 0, 1) := by decide +kernel
theorem dX4_requireIndex_1 : decode cX4_requireIndex 1 = .ok (.ifCond .ne 13, 3) := by decide +kernel
theorem dX4_requireIndex_4 : decode cX4_requireIndex 4 = .ok (.new 176, 3) := by decide +kernel
theorem dX4_requireIndex_7 : decode cX4_requireIndex 7 = .ok (.dup, 1) := by decide +kernel
theorem dX4_requireIndex_8 : decode cX4_requireIndex 8 = .ok (.ldc 178, 2) := by decide +kernel
theorem dX4_requireIndex_10 : decode cX4_requireIndex 10 = .ok (.invokespecial 180, 3) := by decide +kernel
theorem dX4_requireIndex_13 : decode cX4_requireIndex 13 = .ok (.athrow, 1) := by decide +kernel
theorem dX4_requireIndex_14 : decode cX4_requireIndex 14 = .ok (.return_, 1) := by decide +kernel
theorem dX4_requireArgument_0 : decode cX4_requireArgument 0 = .ok (.iload_n 0, 1) := by decide +kernel
theorem dX4_requireArgument_1 : decode cX4_requireArgument 1 = .ok (.ifCond .ne 13, 3) := by decide +kernel
theorem dX4_requireArgument_4 : decode cX4_requireArgument 4 = .ok (.new 181, 3) := by decide +kernel
theorem dX4_requireArgument_7 : decode cX4_requireArgument 7 = .ok (.dup, 1) := by decide +kernel
theorem dX4_requireArgument_8 : decode cX4_requireArgument 8 = .ok (.ldc 183, 2) := by decide +kernel
theorem dX4_requireArgument_10 : decode cX4_requireArgument 10 = .ok (.invokespecial 185, 3) := by decide +kernel
theorem dX4_requireArgument_13 : decode cX4_requireArgument 13 = .ok (.athrow, 1) := by decide +kernel
theorem dX4_requireArgument_14 : decode cX4_requireArgument 14 = .ok (.return_, 1) := by decide +kernel
set_option maxRecDepth 20000 in
theorem ggX4_requireWordAndBeat_X4_isWord : GoodIn wsX4_requireWordAndBeat wsX4_isWord := goodIn_r _ [4, 5, 6, 7, 3, 8] (by decide +kernel) (by decide +kernel)
set_option maxRecDepth 20000 in
theorem gX4_requireWordAndBeat_X4_isWord : GoodIn wsX4_requireWordAndBeat (va_wsS RX4 151 yX4_isWord wsX4_isWord) := goodIn_app (goodIn_of _ (by decide +kernel)) ggX4_requireWordAndBeat_X4_isWord
set_option maxRecDepth 20000 in
theorem ggX4_requireWordAndBeat_X4_requireArgument : GoodIn wsX4_requireWordAndBeat wsX4_requireArgument := goodIn_ca (goodIn_r _ [11, 12, 13] (by decide +kernel) (by decide +kernel)) (goodIn_sub (fun _ h => List.mem_cons_of_mem _ (List.mem_append_right _ h)) (by decide +kernel))
set_option maxRecDepth 20000 in
theorem gX4_requireWordAndBeat_X4_requireArgument : GoodIn wsX4_requireWordAndBeat (va_wsS RX4 49 yX4_requireArgument wsX4_requireArgument) := goodIn_app (goodIn_of _ (by decide +kernel)) ggX4_requireWordAndBeat_X4_requireArgument
set_option maxRecDepth 20000 in
theorem ggX4_requireWordAndBeat_X4_isWithin : GoodIn wsX4_requireWordAndBeat wsX4_isWithin := goodIn_r _ [8] (by decide +kernel) (by decide +kernel)
set_option maxRecDepth 20000 in
theorem gX4_requireWordAndBeat_X4_isWithin : GoodIn wsX4_requireWordAndBeat (va_wsS RX4 45 yX4_isWithin wsX4_isWithin) := goodIn_app (goodIn_of _ (by decide +kernel)) ggX4_requireWordAndBeat_X4_isWithin
theorem dX4_requireWordAndBeat_0 : decode cX4_requireWordAndBeat 0 = .ok (.iload_n 0, 1) := by decide +kernel
theorem dX4_requireWordAndBeat_1 : decode cX4_requireWordAndBeat 1 = .ok (.invokestatic 151, 3) := by decide +kernel
theorem dX4_requireWordAndBeat_4 : decode cX4_requireWordAndBeat 4 = .ok (.invokestatic 49, 3) := by decide +kernel
theorem dX4_requireWordAndBeat_7 : decode cX4_requireWordAndBeat 7 = .ok (.iload_n 1, 1) := by decide +kernel
theorem dX4_requireWordAndBeat_8 : decode cX4_requireWordAndBeat 8 = .ok (.iconst 1, 1) := by decide +kernel
theorem dX4_requireWordAndBeat_9 : decode cX4_requireWordAndBeat 9 = .ok (.bipush 20, 2) := by decide +kernel
theorem dX4_requireWordAndBeat_11 : decode cX4_requireWordAndBeat 11 = .ok (.invokestatic 45, 3) := by decide +kernel
theorem dX4_requireWordAndBeat_14 : decode cX4_requireWordAndBeat 14 = .ok (.invokestatic 49, 3) := by decide +kernel
theorem dX4_requireWordAndBeat_17 : decode cX4_requireWordAndBeat 17 = .ok (.return_, 1) := by decide +kernel
theorem dX5_init_0 : decode cX5_init 0 = .ok (.aload_n 0, 1) := by decide +kernel
theorem dX5_init_1 : decode cX5_init 1 = .ok (.aload_n 1, 1) := by decide +kernel
theorem dX5_init_2 : decode cX5_init 2 = .ok (.putfield 3, 3) := by decide +kernel
theorem dX5_init_5 : decode cX5_init 5 = .ok (.aload_n 0, 1) := by decide +kernel
theorem dX5_init_6 : decode cX5_init 6 = .ok (.invokespecial 9, 3) := by decide +kernel
theorem dX5_init_9 : decode cX5_init 9 = .ok (.aload_n 0, 1) := by decide +kernel
theorem dX5_init_10 : decode cX5_init 10 = .ok (.iconst (-1), 1) := by decide +kernel
theorem dX5_init_11 : decode cX5_init 11 = .ok (.putfield 15, 3) := by decide +kernel
theorem dX5_init_14 : decode cX5_init 14 = .ok (.aload_n 0, 1) := by decide +kernel
theorem dX5_init_15 : decode cX5_init 15 = .ok (.bipush 6, 2) := by decide +kernel
theorem dX5_init_17 : decode cX5_init 17 = .ok (.newarray .int, 2) := by decide +kernel
theorem dX5_init_19 : decode cX5_init 19 = .ok (.putfield 19, 3) := by decide +kernel
theorem dX5_init_22 : decode cX5_init 22 = .ok (.aload_n 0, 1) := by decide +kernel
theorem dX5_init_23 : decode cX5_init 23 = .ok (.sipush 300, 3) := by decide +kernel
theorem dX5_init_26 : decode cX5_init 26 = .ok (.newarray .int, 2) := by decide +kernel
theorem dX5_init_28 : decode cX5_init 28 = .ok (.putfield 23, 3) := by decide +kernel
theorem dX5_init_31 : decode cX5_init 31 = .ok (.aload_n 0, 1) := by decide +kernel
theorem dX5_init_32 : decode cX5_init 32 = .ok (.bipush 17, 2) := by decide +kernel
theorem dX5_init_34 : decode cX5_init 34 = .ok (.newarray .int, 2) := by decide +kernel
theorem dX5_init_36 : decode cX5_init 36 = .ok (.putfield 26, 3) := by decide +kernel
theorem dX5_init_39 : decode cX5_init 39 = .ok (.aload_n 0, 1) := by decide +kernel
theorem dX5_init_40 : decode cX5_init 40 = .ok (.bipush 17, 2) := by decide +kernel
theorem dX5_init_42 : decode cX5_init 42 = .ok (.newarray .int, 2) := by decide +kernel
theorem dX5_init_44 : decode cX5_init 44 = .ok (.putfield 29, 3) := by decide +kernel
theorem dX5_init_47 : decode cX5_init 47 = .ok (.aload_n 0, 1) := by decide +kernel
theorem dX5_init_48 : decode cX5_init 48 = .ok (.bipush 17, 2) := by decide +kernel
theorem dX5_init_50 : decode cX5_init 50 = .ok (.newarray .int, 2) := by decide +kernel
theorem dX5_init_52 : decode cX5_init 52 = .ok (.putfield 32, 3) := by decide +kernel
theorem dX5_init_55 : decode cX5_init 55 = .ok (.aload_n 0, 1) := by decide +kernel
theorem dX5_init_56 : decode cX5_init 56 = .ok (.bipush 17, 2) := by decide +kernel
theorem dX5_init_58 : decode cX5_init 58 = .ok (.newarray .int, 2) := by decide +kernel
theorem dX5_init_60 : decode cX5_init 60 = .ok (.putfield 35, 3) := by decide +kernel
theorem dX5_init_63 : decode cX5_init 63 = .ok (.aload_n 0, 1) := by decide +kernel
theorem dX5_init_64 : decode cX5_init 64 = .ok (.sipush 629, 3) := by decide +kernel
theorem dX5_init_67 : decode cX5_init 67 = .ok (.newarray .int, 2) := by decide +kernel
theorem dX5_init_69 : decode cX5_init 69 = .ok (.putfield 38, 3) := by decide +kernel
theorem dX5_init_72 : decode cX5_init 72 = .ok (.aload_n 0, 1) := by decide +kernel
theorem dX5_init_73 : decode cX5_init 73 = .ok (.sipush 629, 3) := by decide +kernel
theorem dX5_init_76 : decode cX5_init 76 = .ok (.newarray .int, 2) := by decide +kernel
theorem dX5_init_78 : decode cX5_init 78 = .ok (.putfield 41, 3) := by decide +kernel
theorem dX5_init_81 : decode cX5_init 81 = .ok (.return_, 1) := by decide +kernel
theorem dX5_instead_0 : decode cX5_instead 0 = .ok (.aload_n 0, 1) := by decide +kernel
theorem dX5_instead_1 : decode cX5_instead 1 = .ok (.iload_n 1, 1) := by decide +kernel
theorem dX5_instead_2 : decode cX5_instead 2 = .ok (.putfield 15, 3) := by decide +kernel
theorem dX5_instead_5 : decode cX5_instead 5 = .ok (.aload_n 0, 1) := by decide +kernel
theorem dX5_instead_6 : decode cX5_instead 6 = .ok (.iload_n 2, 1) := by decide +kernel
theorem dX5_instead_7 : decode cX5_instead 7 = .ok (.putfield 44, 3) := by decide +kernel
theorem dX5_instead_10 : decode cX5_instead 10 = .ok (.aload_n 0, 1) := by decide +kernel
theorem dX5_instead_11 : decode cX5_instead 11 = .ok (.iload_n 3, 1) := by decide +kernel
theorem dX5_instead_12 : decode cX5_instead 12 = .ok (.putfield 47, 3) := by decide +kernel
theorem dX5_instead_15 : decode cX5_instead 15 = .ok (.return_, 1) := by decide +kernel
theorem dX5_come_0 : decode cX5_come 0 = .ok (.iload_n 1, 1) := by decide +kernel
theorem dX5_come_1 : decode cX5_come 1 = .ok (.sipush 200, 3) := by decide +kernel
theorem dX5_come_4 : decode cX5_come 4 = .ok (.if_icmp .le 4, 3) := by decide +kernel
theorem dX5_come_7 : decode cX5_come 7 = .ok (.return_, 1) := by decide +kernel
theorem dX5_come_8 : decode cX5_come 8 = .ok (.iload_n 1, 1) := by decide +kernel
theorem dX5_come_9 : decode cX5_come 9 = .ok (.bipush 12, 2) := by decide +kernel
theorem dX5_come_11 : decode cX5_come 11 = .ok (.imul, 1) := by decide +kernel
theorem dX5_come_12 : decode cX5_come 12 = .ok (.iload_n 2, 1) := by decide +kernel
theorem dX5_come_13 : decode cX5_come 13 = .ok (.iadd, 1) := by decide +kernel
theorem dX5_come_14 : decode cX5_come 14 = .ok (.bipush 17, 2) := by decide +kernel
theorem dX5_come_16 : decode cX5_come 16 = .ok (.imul, 1) := by decide +kernel
theorem dX5_come_17 : decode cX5_come 17 = .ok (.iload_n 3, 1) := by decide +kernel
theorem dX5_come_18 : decode cX5_come 18 = .ok (.iadd, 1) := by decide +kernel
theorem dX5_come_19 : decode cX5_come 19 = .ok (.bipush 19, 2) := by decide +kernel
theorem dX5_come_21 : decode cX5_come 21 = .ok (.imul, 1) := by decide +kernel
theorem dX5_come_22 : decode cX5_come 22 = .ok (.iload 4, 2) := by decide +kernel
theorem dX5_come_24 : decode cX5_come 24 = .ok (.iadd, 1) := by decide +kernel
theorem dX5_come_25 : decode cX5_come 25 = .ok (.iconst 1, 1) := by decide +kernel
theorem dX5_come_26 : decode cX5_come 26 = .ok (.iadd, 1) := by decide +kernel
theorem dX5_come_27 : decode cX5_come 27 = .ok (.istore 6, 2) := by decide +kernel
theorem dX5_come_29 : decode cX5_come 29 = .ok (.aload_n 0, 1) := by decide +kernel
theorem dX5_come_30 : decode cX5_come 30 = .ok (.getfield 50, 3) := by decide +kernel
theorem dX5_come_33 : decode cX5_come 33 = .ok (.istore 7, 2) := by decide +kernel
theorem dX5_come_35 : decode cX5_come 35 = .ok (.iload 7, 2) := by decide +kernel
theorem dX5_come_37 : decode cX5_come 37 = .ok (.ifCond .le 55, 3) := by decide +kernel
theorem dX5_come_40 : decode cX5_come 40 = .ok (.aload_n 0, 1) := by decide +kernel
theorem dX5_come_41 : decode cX5_come 41 = .ok (.getfield 38, 3) := by decide +kernel
theorem dX5_come_44 : decode cX5_come 44 = .ok (.iload 7, 2) := by decide +kernel
theorem dX5_come_46 : decode cX5_come 46 = .ok (.iconst 1, 1) := by decide +kernel
theorem dX5_come_47 : decode cX5_come 47 = .ok (.isub, 1) := by decide +kernel
theorem dX5_come_48 : decode cX5_come 48 = .ok (.iaload, 1) := by decide +kernel
theorem dX5_come_49 : decode cX5_come 49 = .ok (.iload 6, 2) := by decide +kernel
theorem dX5_come_51 : decode cX5_come 51 = .ok (.if_icmp .ge 41, 3) := by decide +kernel
theorem dX5_come_54 : decode cX5_come 54 = .ok (.aload_n 0, 1) := by decide +kernel
theorem dX5_come_55 : decode cX5_come 55 = .ok (.getfield 38, 3) := by decide +kernel
theorem dX5_come_58 : decode cX5_come 58 = .ok (.iload 7, 2) := by decide +kernel
theorem dX5_come_60 : decode cX5_come 60 = .ok (.aload_n 0, 1) := by decide +kernel
theorem dX5_come_61 : decode cX5_come 61 = .ok (.getfield 38, 3) := by decide +kernel
theorem dX5_come_64 : decode cX5_come 64 = .ok (.iload 7, 2) := by decide +kernel
theorem dX5_come_66 : decode cX5_come 66 = .ok (.iconst 1, 1) := by decide +kernel
theorem dX5_come_67 : decode cX5_come 67 = .ok (.isub, 1) := by decide +kernel
theorem dX5_come_68 : decode cX5_come 68 = .ok (.iaload, 1) := by decide +kernel
theorem dX5_come_69 : decode cX5_come 69 = .ok (.iastore, 1) := by decide +kernel
theorem dX5_come_70 : decode cX5_come 70 = .ok (.aload_n 0, 1) := by decide +kernel
theorem dX5_come_71 : decode cX5_come 71 = .ok (.getfield 41, 3) := by decide +kernel
theorem dX5_come_74 : decode cX5_come 74 = .ok (.iload 7, 2) := by decide +kernel
theorem dX5_come_76 : decode cX5_come 76 = .ok (.aload_n 0, 1) := by decide +kernel
theorem dX5_come_77 : decode cX5_come 77 = .ok (.getfield 41, 3) := by decide +kernel
theorem dX5_come_80 : decode cX5_come 80 = .ok (.iload 7, 2) := by decide +kernel
theorem dX5_come_82 : decode cX5_come 82 = .ok (.iconst 1, 1) := by decide +kernel
theorem dX5_come_83 : decode cX5_come 83 = .ok (.isub, 1) := by decide +kernel
theorem dX5_come_84 : decode cX5_come 84 = .ok (.iaload, 1) := by decide +kernel
theorem dX5_come_85 : decode cX5_come 85 = .ok (.iastore, 1) := by decide +kernel
theorem dX5_come_86 : decode cX5_come 86 = .ok (.iinc 7 (-1), 3) := by decide +kernel
theorem dX5_come_89 : decode cX5_come 89 = .ok (.goto (-54), 3) := by decide +kernel
theorem dX5_come_92 : decode cX5_come 92 = .ok (.aload_n 0, 1) := by decide +kernel
theorem dX5_come_93 : decode cX5_come 93 = .ok (.getfield 38, 3) := by decide +kernel
theorem dX5_come_96 : decode cX5_come 96 = .ok (.iload 7, 2) := by decide +kernel
theorem dX5_come_98 : decode cX5_come 98 = .ok (.iload 6, 2) := by decide +kernel
theorem dX5_come_100 : decode cX5_come 100 = .ok (.iastore, 1) := by decide +kernel
theorem dX5_come_101 : decode cX5_come 101 = .ok (.aload_n 0, 1) := by decide +kernel
theorem dX5_come_102 : decode cX5_come 102 = .ok (.getfield 41, 3) := by decide +kernel
theorem dX5_come_105 : decode cX5_come 105 = .ok (.iload 7, 2) := by decide +kernel
theorem dX5_come_107 : decode cX5_come 107 = .ok (.iload 5, 2) := by decide +kernel
theorem dX5_come_109 : decode cX5_come 109 = .ok (.iastore, 1) := by decide +kernel
theorem dX5_come_110 : decode cX5_come 110 = .ok (.aload_n 0, 1) := by decide +kernel
theorem dX5_come_111 : decode cX5_come 111 = .ok (.dup, 1) := by decide +kernel
theorem dX5_come_112 : decode cX5_come 112 = .ok (.getfield 50, 3) := by decide +kernel
theorem dX5_come_115 : decode cX5_come 115 = .ok (.iconst 1, 1) := by decide +kernel
theorem dX5_come_116 : decode cX5_come 116 = .ok (.iadd, 1) := by decide +kernel
theorem dX5_come_117 : decode cX5_come 117 = .ok (.putfield 50, 3) := by decide +kernel
theorem dX5_come_120 : decode cX5_come 120 = .ok (.return_, 1) := by decide +kernel
set_option maxRecDepth 20000 in
theorem ggX5_start_X5_come : GoodIn wsX5_start wsX5_come := goodIn_r _ [10, 11, 12, 13, 14, 15, 16, 17, 18, 19, 20, 21, 22, 23, 24, 25, 26, 27, 28, 29, 30, 31, 32, 33, 34] (by decide +kernel) (by decide +kernel)
set_option maxRecDepth 20000 in
theorem gX5_start_X5_come : GoodIn wsX5_start (wsV RX5 56 RX5 yX5_come wsX5_come) := goodIn_app (goodIn_of _ (by decide +kernel)) ggX5_start_X5_come
theorem dX5_start_0 : decode cX5_start 0 = .ok (.aload_n 0, 1) := by decide +kernel
theorem dX5_start_1 : decode cX5_start 1 = .ok (.getfield 26, 3) := by decide +kernel
theorem dX5_start_4 : decode cX5_start 4 = .ok (.aload_n 0, 1) := by decide +kernel
theorem dX5_start_5 : decode cX5_start 5 = .ok (.getfield 53, 3) := by decide +kernel
theorem dX5_start_8 : decode cX5_start 8 = .ok (.iload_n 3, 1) := by decide +kernel
theorem dX5_start_9 : decode cX5_start 9 = .ok (.iastore, 1) := by decide +kernel
theorem dX5_start_10 : decode cX5_start 10 = .ok (.aload_n 0, 1) := by decide +kernel
theorem dX5_start_11 : decode cX5_start 11 = .ok (.getfield 29, 3) := by decide +kernel
theorem dX5_start_14 : decode cX5_start 14 = .ok (.aload_n 0, 1) := by decide +kernel
theorem dX5_start_15 : decode cX5_start 15 = .ok (.getfield 53, 3) := by decide +kernel
theorem dX5_start_18 : decode cX5_start 18 = .ok (.iload 4, 2) := by decide +kernel
theorem dX5_start_20 : decode cX5_start 20 = .ok (.iastore, 1) := by decide +kernel
theorem dX5_start_21 : decode cX5_start 21 = .ok (.aload_n 0, 1) := by decide +kernel
theorem dX5_start_22 : decode cX5_start 22 = .ok (.getfield 32, 3) := by decide +kernel
theorem dX5_start_25 : decode cX5_start 25 = .ok (.aload_n 0, 1) := by decide +kernel
theorem dX5_start_26 : decode cX5_start 26 = .ok (.getfield 53, 3) := by decide +kernel
theorem dX5_start_29 : decode cX5_start 29 = .ok (.iconst 0, 1) := by decide +kernel
theorem dX5_start_30 : decode cX5_start 30 = .ok (.iastore, 1) := by decide +kernel
theorem dX5_start_31 : decode cX5_start 31 = .ok (.aload_n 0, 1) := by decide +kernel
theorem dX5_start_32 : decode cX5_start 32 = .ok (.getfield 35, 3) := by decide +kernel
theorem dX5_start_35 : decode cX5_start 35 = .ok (.aload_n 0, 1) := by decide +kernel
theorem dX5_start_36 : decode cX5_start 36 = .ok (.getfield 53, 3) := by decide +kernel
theorem dX5_start_39 : decode cX5_start 39 = .ok (.iconst 0, 1) := by decide +kernel
theorem dX5_start_40 : decode cX5_start 40 = .ok (.iastore, 1) := by decide +kernel
theorem dX5_start_41 : decode cX5_start 41 = .ok (.aload_n 0, 1) := by decide +kernel
theorem dX5_start_42 : decode cX5_start 42 = .ok (.iload_n 1, 1) := by decide +kernel
theorem dX5_start_43 : decode cX5_start 43 = .ok (.iload_n 2, 1) := by decide +kernel
theorem dX5_start_44 : decode cX5_start 44 = .ok (.aload_n 0, 1) := by decide +kernel
theorem dX5_start_45 : decode cX5_start 45 = .ok (.getfield 53, 3) := by decide +kernel
theorem dX5_start_48 : decode cX5_start 48 = .ok (.iconst (-1), 1) := by decide +kernel
theorem dX5_start_49 : decode cX5_start 49 = .ok (.iload 5, 2) := by decide +kernel
theorem dX5_start_51 : decode cX5_start 51 = .ok (.invokevirtual 56, 3) := by decide +kernel
theorem dX5_start_54 : decode cX5_start 54 = .ok (.aload_n 0, 1) := by decide +kernel
theorem dX5_start_55 : decode cX5_start 55 = .ok (.dup, 1) := by decide +kernel
theorem dX5_start_56 : decode cX5_start 56 = .ok (.getfield 53, 3) := by decide +kernel
theorem dX5_start_59 : decode cX5_start 59 = .ok (.iconst 1, 1) := by decide +kernel
theorem dX5_start_60 : decode cX5_start 60 = .ok (.iadd, 1) := by decide +kernel
theorem dX5_start_61 : decode cX5_start 61 = .ok (.putfield 53, 3) := by decide +kernel
theorem dX5_start_64 : decode cX5_start 64 = .ok (.return_, 1) := by decide +kernel
set_option maxRecDepth 20000 in
theorem ggX5_go_X5_come : GoodIn wsX5_go wsX5_come := goodIn_r _ [8, 9, 10, 11, 12, 13, 14, 15, 16, 17, 18, 19, 20, 21, 22, 23, 24, 25, 26, 27, 28, 29, 30, 31, 32] (by decide +kernel) (by decide +kernel)
set_option maxRecDepth 20000 in
theorem gX5_go_X5_come : GoodIn wsX5_go (wsV RX5 56 RX5 yX5_come wsX5_come) := goodIn_app (goodIn_of _ (by decide +kernel)) ggX5_go_X5_come
theorem dX5_go_0 : decode cX5_go 0 = .ok (.aload_n 0, 1) := by decide +kernel
theorem dX5_go_1 : decode cX5_go 1 = .ok (.getfield 3, 3) := by decide +kernel
theorem dX5_go_4 : decode cX5_go 4 = .ok (.getfield 60, 3) := by decide +kernel
theorem dX5_go_7 : decode cX5_go 7 = .ok (.iconst 4, 1) := by decide +kernel
theorem dX5_go_8 : decode cX5_go 8 = .ok (.iload 4, 2) := by decide +kernel
theorem dX5_go_10 : decode cX5_go 10 = .ok (.imul, 1) := by decide +kernel
theorem dX5_go_11 : decode cX5_go 11 = .ok (.iaload, 1) := by decide +kernel
theorem dX5_go_12 : decode cX5_go 12 = .ok (.iload_n 2, 1) := by decide +kernel
theorem dX5_go_13 : decode cX5_go 13 = .ok (.if_icmp .ne 7, 3) := by decide +kernel
theorem dX5_go_16 : decode cX5_go 16 = .ok (.iconst 1, 1) := by decide +kernel
theorem dX5_go_17 : decode cX5_go 17 = .ok (.goto 4, 3) := by decide +kernel
theorem dX5_go_20 : decode cX5_go 20 = .ok (.iconst 0, 1) := by decide +kernel
theorem dX5_go_21 : decode cX5_go 21 = .ok (.istore 6, 2) := by decide +kernel
theorem dX5_go_23 : decode cX5_go 23 = .ok (.iload 6, 2) := by decide +kernel
theorem dX5_go_25 : decode cX5_go 25 = .ok (.ifCond .eq 12, 3) := by decide +kernel
theorem dX5_go_28 : decode cX5_go 28 = .ok (.aload_n 0, 1) := by decide +kernel
theorem dX5_go_29 : decode cX5_go 29 = .ok (.getfield 32, 3) := by decide +kernel
theorem dX5_go_32 : decode cX5_go 32 = .ok (.iload_n 3, 1) := by decide +kernel
theorem dX5_go_33 : decode cX5_go 33 = .ok (.iaload, 1) := by decide +kernel
theorem dX5_go_34 : decode cX5_go 34 = .ok (.goto 9, 3) := by decide +kernel
theorem dX5_go_37 : decode cX5_go 37 = .ok (.aload_n 0, 1) := by decide +kernel
theorem dX5_go_38 : decode cX5_go 38 = .ok (.getfield 35, 3) := by decide +kernel
theorem dX5_go_41 : decode cX5_go 41 = .ok (.iload_n 3, 1) := by decide +kernel
theorem dX5_go_42 : decode cX5_go 42 = .ok (.iaload, 1) := by decide +kernel
theorem dX5_go_43 : decode cX5_go 43 = .ok (.istore 7, 2) := by decide +kernel
theorem dX5_go_45 : decode cX5_go 45 = .ok (.iload 7, 2) := by decide +kernel
theorem dX5_go_47 : decode cX5_go 47 = .ok (.iload 4, 2) := by decide +kernel
theorem dX5_go_49 : decode cX5_go 49 = .ok (.ishr, 1) := by decide +kernel
theorem dX5_go_50 : decode cX5_go 50 = .ok (.iconst 1, 1) := by decide +kernel
theorem dX5_go_51 : decode cX5_go 51 = .ok (.iand, 1) := by decide +kernel
theorem dX5_go_52 : decode cX5_go 52 = .ok (.iconst 1, 1) := by decide +kernel
theorem dX5_go_53 : decode cX5_go 53 = .ok (.if_icmp .ne 4, 3) := by decide +kernel
theorem dX5_go_56 : decode cX5_go 56 = .ok (.return_, 1) := by decide +kernel
theorem dX5_go_57 : decode cX5_go 57 = .ok (.iload 6, 2) := by decide +kernel
theorem dX5_go_59 : decode cX5_go 59 = .ok (.ifCond .eq 19, 3) := by decide +kernel
theorem dX5_go_62 : decode cX5_go 62 = .ok (.aload_n 0, 1) := by decide +kernel
theorem dX5_go_63 : decode cX5_go 63 = .ok (.getfield 32, 3) := by decide +kernel
theorem dX5_go_66 : decode cX5_go 66 = .ok (.iload_n 3, 1) := by decide +kernel
theorem dX5_go_67 : decode cX5_go 67 = .ok (.dup2, 1) := by decide +kernel
theorem dX5_go_68 : decode cX5_go 68 = .ok (.iaload, 1) := by decide +kernel
theorem dX5_go_69 : decode cX5_go 69 = .ok (.iconst 1, 1) := by decide +kernel
theorem dX5_go_70 : decode cX5_go 70 = .ok (.iload 4, 2) := by decide +kernel
theorem dX5_go_72 : decode cX5_go 72 = .ok (.ishl, 1) := by decide +kernel
theorem dX5_go_73 : decode cX5_go 73 = .ok (.ior, 1) := by decide +kernel
theorem dX5_go_74 : decode cX5_go 74 = .ok (.iastore, 1) := by decide +kernel
theorem dX5_go_75 : decode cX5_go 75 = .ok (.goto 16, 3) := by decide +kernel
theorem dX5_go_78 : decode cX5_go 78 = .ok (.aload_n 0, 1) := by decide +kernel
theorem dX5_go_79 : decode cX5_go 79 = .ok (.getfield 35, 3) := by decide +kernel
theorem dX5_go_82 : decode cX5_go 82 = .ok (.iload_n 3, 1) := by decide +kernel
theorem dX5_go_83 : decode cX5_go 83 = .ok (.dup2, 1) := by decide +kernel
theorem dX5_go_84 : decode cX5_go 84 = .ok (.iaload, 1) := by decide +kernel
theorem dX5_go_85 : decode cX5_go 85 = .ok (.iconst 1, 1) := by decide +kernel
theorem dX5_go_86 : decode cX5_go 86 = .ok (.iload 4, 2) := by decide +kernel
theorem dX5_go_88 : decode cX5_go 88 = .ok (.ishl, 1) := by decide +kernel
theorem dX5_go_89 : decode cX5_go 89 = .ok (.ior, 1) := by decide +kernel
theorem dX5_go_90 : decode cX5_go 90 = .ok (.iastore, 1) := by decide +kernel
theorem dX5_go_91 : decode cX5_go 91 = .ok (.aload_n 0, 1) := by decide +kernel
theorem dX5_go_92 : decode cX5_go 92 = .ok (.iload_n 1, 1) := by decide +kernel
theorem dX5_go_93 : decode cX5_go 93 = .ok (.aload_n 0, 1) := by decide +kernel
theorem dX5_go_94 : decode cX5_go 94 = .ok (.getfield 3, 3) := by decide +kernel
theorem dX5_go_97 : decode cX5_go 97 = .ok (.getfield 60, 3) := by decide +kernel
theorem dX5_go_100 : decode cX5_go 100 = .ok (.iconst 4, 1) := by decide +kernel
theorem dX5_go_101 : decode cX5_go 101 = .ok (.iload 4, 2) := by decide +kernel
theorem dX5_go_103 : decode cX5_go 103 = .ok (.imul, 1) := by decide +kernel
theorem dX5_go_104 : decode cX5_go 104 = .ok (.iconst 2, 1) := by decide +kernel
theorem dX5_go_105 : decode cX5_go 105 = .ok (.iadd, 1) := by decide +kernel
theorem dX5_go_106 : decode cX5_go 106 = .ok (.iaload, 1) := by decide +kernel
theorem dX5_go_107 : decode cX5_go 107 = .ok (.iadd, 1) := by decide +kernel
theorem dX5_go_108 : decode cX5_go 108 = .ok (.aload_n 0, 1) := by decide +kernel
theorem dX5_go_109 : decode cX5_go 109 = .ok (.getfield 3, 3) := by decide +kernel
theorem dX5_go_112 : decode cX5_go 112 = .ok (.getfield 60, 3) := by decide +kernel
theorem dX5_go_115 : decode cX5_go 115 = .ok (.iconst 4, 1) := by decide +kernel
theorem dX5_go_116 : decode cX5_go 116 = .ok (.iload 4, 2) := by decide +kernel
theorem dX5_go_118 : decode cX5_go 118 = .ok (.imul, 1) := by decide +kernel
theorem dX5_go_119 : decode cX5_go 119 = .ok (.iaload, 1) := by decide +kernel
theorem dX5_go_120 : decode cX5_go 120 = .ok (.aload_n 0, 1) := by decide +kernel
theorem dX5_go_121 : decode cX5_go 121 = .ok (.getfield 3, 3) := by decide +kernel
theorem dX5_go_124 : decode cX5_go 124 = .ok (.getfield 60, 3) := by decide +kernel
theorem dX5_go_127 : decode cX5_go 127 = .ok (.iconst 4, 1) := by decide +kernel
theorem dX5_go_128 : decode cX5_go 128 = .ok (.iload 4, 2) := by decide +kernel
theorem dX5_go_130 : decode cX5_go 130 = .ok (.imul, 1) := by decide +kernel
theorem dX5_go_131 : decode cX5_go 131 = .ok (.iconst 1, 1) := by decide +kernel
theorem dX5_go_132 : decode cX5_go 132 = .ok (.iadd, 1) := by decide +kernel
theorem dX5_go_133 : decode cX5_go 133 = .ok (.iaload, 1) := by decide +kernel
theorem dX5_go_134 : decode cX5_go 134 = .ok (.iadd, 1) := by decide +kernel
theorem dX5_go_135 : decode cX5_go 135 = .ok (.iload_n 2, 1) := by decide +kernel
theorem dX5_go_136 : decode cX5_go 136 = .ok (.isub, 1) := by decide +kernel
theorem dX5_go_137 : decode cX5_go 137 = .ok (.iload_n 3, 1) := by decide +kernel
theorem dX5_go_138 : decode cX5_go 138 = .ok (.iload 4, 2) := by decide +kernel
theorem dX5_go_140 : decode cX5_go 140 = .ok (.iload 5, 2) := by decide +kernel
theorem dX5_go_142 : decode cX5_go 142 = .ok (.bipush 90, 2) := by decide +kernel
theorem dX5_go_144 : decode cX5_go 144 = .ok (.iconst 5, 1) := by decide +kernel
theorem dX5_go_145 : decode cX5_go 145 = .ok (.aload_n 0, 1) := by decide +kernel
theorem dX5_go_146 : decode cX5_go 146 = .ok (.getfield 3, 3) := by decide +kernel
theorem dX5_go_149 : decode cX5_go 149 = .ok (.getfield 60, 3) := by decide +kernel
theorem dX5_go_152 : decode cX5_go 152 = .ok (.iconst 4, 1) := by decide +kernel
theorem dX5_go_153 : decode cX5_go 153 = .ok (.iload 4, 2) := by decide +kernel
theorem dX5_go_155 : decode cX5_go 155 = .ok (.imul, 1) := by decide +kernel
theorem dX5_go_156 : decode cX5_go 156 = .ok (.iconst 3, 1) := by decide +kernel
theorem dX5_go_157 : decode cX5_go 157 = .ok (.iadd, 1) := by decide +kernel
theorem dX5_go_158 : decode cX5_go 158 = .ok (.iaload, 1) := by decide +kernel
theorem dX5_go_159 : decode cX5_go 159 = .ok (.imul, 1) := by decide +kernel
theorem dX5_go_160 : decode cX5_go 160 = .ok (.isub, 1) := by decide +kernel
theorem dX5_go_161 : decode cX5_go 161 = .ok (.imul, 1) := by decide +kernel
theorem dX5_go_162 : decode cX5_go 162 = .ok (.bipush 100, 2) := by decide +kernel
theorem dX5_go_164 : decode cX5_go 164 = .ok (.idiv, 1) := by decide +kernel
theorem dX5_go_165 : decode cX5_go 165 = .ok (.invokevirtual 56, 3) := by decide +kernel
theorem dX5_go_168 : decode cX5_go 168 = .ok (.return_, 1) := by decide +kernel
theorem dX5_hear_0 : decode cX5_hear 0 = .ok (.aload_n 0, 1) := by decide +kernel
theorem dX5_hear_1 : decode cX5_hear 1 = .ok (.getfield 63, 3) := by decide +kernel
theorem dX5_hear_4 : decode cX5_hear 4 = .ok (.bipush 60, 2) := by decide +kernel
theorem dX5_hear_6 : decode cX5_hear 6 = .ok (.if_icmp .ne 4, 3) := by decide +kernel
theorem dX5_hear_9 : decode cX5_hear 9 = .ok (.return_, 1) := by decide +kernel
theorem dX5_hear_10 : decode cX5_hear 10 = .ok (.iload_n 3, 1) := by decide +kernel
theorem dX5_hear_11 : decode cX5_hear 11 = .ok (.aload_n 0, 1) := by decide +kernel
theorem dX5_hear_12 : decode cX5_hear 12 = .ok (.getfield 3, 3) := by decide +kernel
theorem dX5_hear_15 : decode cX5_hear 15 = .ok (.getfield 66, 3) := by decide +kernel
theorem dX5_hear_18 : decode cX5_hear 18 = .ok (.if_icmp .lt 7, 3) := by decide +kernel
theorem dX5_hear_21 : decode cX5_hear 21 = .ok (.iconst 1, 1) := by decide +kernel
theorem dX5_hear_22 : decode cX5_hear 22 = .ok (.goto 4, 3) := by decide +kernel
theorem dX5_hear_25 : decode cX5_hear 25 = .ok (.iconst 0, 1) := by decide +kernel
theorem dX5_hear_26 : decode cX5_hear 26 = .ok (.istore 4, 2) := by decide +kernel
theorem dX5_hear_28 : decode cX5_hear 28 = .ok (.iconst 5, 1) := by decide +kernel
theorem dX5_hear_29 : decode cX5_hear 29 = .ok (.aload_n 0, 1) := by decide +kernel
theorem dX5_hear_30 : decode cX5_hear 30 = .ok (.getfield 63, 3) := by decide +kernel
theorem dX5_hear_33 : decode cX5_hear 33 = .ok (.imul, 1) := by decide +kernel
theorem dX5_hear_34 : decode cX5_hear 34 = .ok (.istore 5, 2) := by decide +kernel
theorem dX5_hear_36 : decode cX5_hear 36 = .ok (.aload_n 0, 1) := by decide +kernel
theorem dX5_hear_37 : decode cX5_hear 37 = .ok (.getfield 23, 3) := by decide +kernel
theorem dX5_hear_40 : decode cX5_hear 40 = .ok (.iload 5, 2) := by decide +kernel
theorem dX5_hear_42 : decode cX5_hear 42 = .ok (.iload_n 1, 1) := by decide +kernel
theorem dX5_hear_43 : decode cX5_hear 43 = .ok (.iastore, 1) := by decide +kernel
theorem dX5_hear_44 : decode cX5_hear 44 = .ok (.aload_n 0, 1) := by decide +kernel
theorem dX5_hear_45 : decode cX5_hear 45 = .ok (.getfield 23, 3) := by decide +kernel
theorem dX5_hear_48 : decode cX5_hear 48 = .ok (.iload 5, 2) := by decide +kernel
theorem dX5_hear_50 : decode cX5_hear 50 = .ok (.iconst 1, 1) := by decide +kernel
theorem dX5_hear_51 : decode cX5_hear 51 = .ok (.iadd, 1) := by decide +kernel
theorem dX5_hear_52 : decode cX5_hear 52 = .ok (.aload_n 0, 1) := by decide +kernel
theorem dX5_hear_53 : decode cX5_hear 53 = .ok (.getfield 26, 3) := by decide +kernel
theorem dX5_hear_56 : decode cX5_hear 56 = .ok (.iload_n 2, 1) := by decide +kernel
theorem dX5_hear_57 : decode cX5_hear 57 = .ok (.iaload, 1) := by decide +kernel
theorem dX5_hear_58 : decode cX5_hear 58 = .ok (.iastore, 1) := by decide +kernel
theorem dX5_hear_59 : decode cX5_hear 59 = .ok (.aload_n 0, 1) := by decide +kernel
theorem dX5_hear_60 : decode cX5_hear 60 = .ok (.getfield 23, 3) := by decide +kernel
theorem dX5_hear_63 : decode cX5_hear 63 = .ok (.iload 5, 2) := by decide +kernel
theorem dX5_hear_65 : decode cX5_hear 65 = .ok (.iconst 2, 1) := by decide +kernel
theorem dX5_hear_66 : decode cX5_hear 66 = .ok (.iadd, 1) := by decide +kernel
theorem dX5_hear_67 : decode cX5_hear 67 = .ok (.aload_n 0, 1) := by decide +kernel
theorem dX5_hear_68 : decode cX5_hear 68 = .ok (.getfield 29, 3) := by decide +kernel
theorem dX5_hear_71 : decode cX5_hear 71 = .ok (.iload_n 2, 1) := by decide +kernel
theorem dX5_hear_72 : decode cX5_hear 72 = .ok (.iaload, 1) := by decide +kernel
theorem dX5_hear_73 : decode cX5_hear 73 = .ok (.iastore, 1) := by decide +kernel
theorem dX5_hear_74 : decode cX5_hear 74 = .ok (.aload_n 0, 1) := by decide +kernel
theorem dX5_hear_75 : decode cX5_hear 75 = .ok (.getfield 23, 3) := by decide +kernel
theorem dX5_hear_78 : decode cX5_hear 78 = .ok (.iload 5, 2) := by decide +kernel
theorem dX5_hear_80 : decode cX5_hear 80 = .ok (.iconst 3, 1) := by decide +kernel
theorem dX5_hear_81 : decode cX5_hear 81 = .ok (.iadd, 1) := by decide +kernel
theorem dX5_hear_82 : decode cX5_hear 82 = .ok (.iload_n 3, 1) := by decide +kernel
theorem dX5_hear_83 : decode cX5_hear 83 = .ok (.iastore, 1) := by decide +kernel
theorem dX5_hear_84 : decode cX5_hear 84 = .ok (.aload_n 0, 1) := by decide +kernel
theorem dX5_hear_85 : decode cX5_hear 85 = .ok (.getfield 23, 3) := by decide +kernel
theorem dX5_hear_88 : decode cX5_hear 88 = .ok (.iload 5, 2) := by decide +kernel
theorem dX5_hear_90 : decode cX5_hear 90 = .ok (.iconst 4, 1) := by decide +kernel
theorem dX5_hear_91 : decode cX5_hear 91 = .ok (.iadd, 1) := by decide +kernel
theorem dX5_hear_92 : decode cX5_hear 92 = .ok (.iload 4, 2) := by decide +kernel
theorem dX5_hear_94 : decode cX5_hear 94 = .ok (.ifCond .eq 7, 3) := by decide +kernel
theorem dX5_hear_97 : decode cX5_hear 97 = .ok (.iconst 1, 1) := by decide +kernel
theorem dX5_hear_98 : decode cX5_hear 98 = .ok (.goto 4, 3) := by decide +kernel
theorem dX5_hear_101 : decode cX5_hear 101 = .ok (.iconst 0, 1) := by decide +kernel
theorem dX5_hear_102 : decode cX5_hear 102 = .ok (.iastore, 1) := by decide +kernel
theorem dX5_hear_103 : decode cX5_hear 103 = .ok (.aload_n 0, 1) := by decide +kernel
theorem dX5_hear_104 : decode cX5_hear 104 = .ok (.dup, 1) := by decide +kernel
theorem dX5_hear_105 : decode cX5_hear 105 = .ok (.getfield 63, 3) := by decide +kernel
theorem dX5_hear_108 : decode cX5_hear 108 = .ok (.iconst 1, 1) := by decide +kernel
theorem dX5_hear_109 : decode cX5_hear 109 = .ok (.iadd, 1) := by decide +kernel
theorem dX5_hear_110 : decode cX5_hear 110 = .ok (.putfield 63, 3) := by decide +kernel
theorem dX5_hear_113 : decode cX5_hear 113 = .ok (.iload 4, 2) := by decide +kernel
theorem dX5_hear_115 : decode cX5_hear 115 = .ok (.ifCond .ne 4, 3) := by decide +kernel
theorem dX5_hear_118 : decode cX5_hear 118 = .ok (.return_, 1) := by decide +kernel
theorem dX5_hear_119 : decode cX5_hear 119 = .ok (.aload_n 0, 1) := by decide +kernel
theorem dX5_hear_120 : decode cX5_hear 120 = .ok (.dup, 1) := by decide +kernel
theorem dX5_hear_121 : decode cX5_hear 121 = .ok (.getfield 69, 3) := by decide +kernel
theorem dX5_hear_124 : decode cX5_hear 124 = .ok (.iconst 1, 1) := by decide +kernel
theorem dX5_hear_125 : decode cX5_hear 125 = .ok (.iadd, 1) := by decide +kernel
theorem dX5_hear_126 : decode cX5_hear 126 = .ok (.putfield 69, 3) := by decide +kernel
theorem dX5_hear_129 : decode cX5_hear 129 = .ok (.aload_n 0, 1) := by decide +kernel
theorem dX5_hear_130 : decode cX5_hear 130 = .ok (.iload_n 1, 1) := by decide +kernel
theorem dX5_hear_131 : decode cX5_hear 131 = .ok (.putfield 72, 3) := by decide +kernel
theorem dX5_hear_134 : decode cX5_hear 134 = .ok (.aload_n 0, 1) := by decide +kernel
theorem dX5_hear_135 : decode cX5_hear 135 = .ok (.getfield 19, 3) := by decide +kernel
theorem dX5_hear_138 : decode cX5_hear 138 = .ok (.aload_n 0, 1) := by decide +kernel
theorem dX5_hear_139 : decode cX5_hear 139 = .ok (.getfield 26, 3) := by decide +kernel
theorem dX5_hear_142 : decode cX5_hear 142 = .ok (.iload_n 2, 1) := by decide +kernel
theorem dX5_hear_143 : decode cX5_hear 143 = .ok (.iaload, 1) := by decide +kernel
theorem dX5_hear_144 : decode cX5_hear 144 = .ok (.iaload, 1) := by decide +kernel
theorem dX5_hear_145 : decode cX5_hear 145 = .ok (.iconst (-1), 1) := by decide +kernel
theorem dX5_hear_146 : decode cX5_hear 146 = .ok (.if_icmp .ne 15, 3) := by decide +kernel
theorem dX5_hear_149 : decode cX5_hear 149 = .ok (.aload_n 0, 1) := by decide +kernel
theorem dX5_hear_150 : decode cX5_hear 150 = .ok (.getfield 19, 3) := by decide +kernel
theorem dX5_hear_153 : decode cX5_hear 153 = .ok (.aload_n 0, 1) := by decide +kernel
theorem dX5_hear_154 : decode cX5_hear 154 = .ok (.getfield 26, 3) := by decide +kernel
theorem dX5_hear_157 : decode cX5_hear 157 = .ok (.iload_n 2, 1) := by decide +kernel
theorem dX5_hear_158 : decode cX5_hear 158 = .ok (.iaload, 1) := by decide +kernel
theorem dX5_hear_159 : decode cX5_hear 159 = .ok (.iload_n 1, 1) := by decide +kernel
theorem dX5_hear_160 : decode cX5_hear 160 = .ok (.iastore, 1) := by decide +kernel
theorem dX5_hear_161 : decode cX5_hear 161 = .ok (.aload_n 0, 1) := by decide +kernel
theorem dX5_hear_162 : decode cX5_hear 162 = .ok (.getfield 26, 3) := by decide +kernel
theorem dX5_hear_165 : decode cX5_hear 165 = .ok (.iload_n 2, 1) := by decide +kernel
theorem dX5_hear_166 : decode cX5_hear 166 = .ok (.iaload, 1) := by decide +kernel
theorem dX5_hear_167 : decode cX5_hear 167 = .ok (.aload_n 0, 1) := by decide +kernel
theorem dX5_hear_168 : decode cX5_hear 168 = .ok (.getfield 75, 3) := by decide +kernel
theorem dX5_hear_171 : decode cX5_hear 171 = .ok (.if_icmp .ne 13, 3) := by decide +kernel
theorem dX5_hear_174 : decode cX5_hear 174 = .ok (.aload_n 0, 1) := by decide +kernel
theorem dX5_hear_175 : decode cX5_hear 175 = .ok (.dup, 1) := by decide +kernel
theorem dX5_hear_176 : decode cX5_hear 176 = .ok (.getfield 75, 3) := by decide +kernel
theorem dX5_hear_179 : decode cX5_hear 179 = .ok (.iconst 1, 1) := by decide +kernel
theorem dX5_hear_180 : decode cX5_hear 180 = .ok (.iadd, 1) := by decide +kernel
theorem dX5_hear_181 : decode cX5_hear 181 = .ok (.putfield 75, 3) := by decide +kernel
theorem dX5_hear_184 : decode cX5_hear 184 = .ok (.return_, 1) := by decide +kernel
set_option maxRecDepth 20000 in
theorem ggX5_clap_X5_start : GoodIn wsX5_clap wsX5_start := goodIn_r _ [12, 7, 13, 4, 14, 15, 16, 17, 18, 11, 19, 20, 21, 22, 23, 24, 25, 26, 27, 28, 29, 30, 31, 32, 33, 34, 35, 36, 37, 38, 39, 40, 41, 42, 43] (by decide +kernel) (by decide +kernel)
set_option maxRecDepth 20000 in
theorem gX5_clap_X5_start : GoodIn wsX5_clap (wsV RX5 84 RX5 yX5_start wsX5_start) := goodIn_app (goodIn_of _ (by decide +kernel)) ggX5_clap_X5_start
theorem dX5_clap_0 : decode cX5_clap 0 = .ok (.iload_n 2, 1) := by decide +kernel
theorem dX5_clap_1 : decode cX5_clap 1 = .ok (.aload_n 0, 1) := by decide +kernel
theorem dX5_clap_2 : decode cX5_clap 2 = .ok (.getfield 15, 3) := by decide +kernel
theorem dX5_clap_5 : decode cX5_clap 5 = .ok (.if_icmp .ne 10, 3) := by decide +kernel
theorem dX5_clap_8 : decode cX5_clap 8 = .ok (.aload_n 0, 1) := by decide +kernel
theorem dX5_clap_9 : decode cX5_clap 9 = .ok (.getfield 44, 3) := by decide +kernel
theorem dX5_clap_12 : decode cX5_clap 12 = .ok (.goto 16, 3) := by decide +kernel
theorem dX5_clap_15 : decode cX5_clap 15 = .ok (.aload_n 0, 1) := by decide +kernel
theorem dX5_clap_16 : decode cX5_clap 16 = .ok (.getfield 3, 3) := by decide +kernel
theorem dX5_clap_19 : decode cX5_clap 19 = .ok (.getfield 78, 3) := by decide +kernel
theorem dX5_clap_22 : decode cX5_clap 22 = .ok (.iconst 5, 1) := by decide +kernel
theorem dX5_clap_23 : decode cX5_clap 23 = .ok (.iload_n 2, 1) := by decide +kernel
theorem dX5_clap_24 : decode cX5_clap 24 = .ok (.imul, 1) := by decide +kernel
theorem dX5_clap_25 : decode cX5_clap 25 = .ok (.iconst 3, 1) := by decide +kernel
theorem dX5_clap_26 : decode cX5_clap 26 = .ok (.iadd, 1) := by decide +kernel
theorem dX5_clap_27 : decode cX5_clap 27 = .ok (.iaload, 1) := by decide +kernel
theorem dX5_clap_28 : decode cX5_clap 28 = .ok (.istore 4, 2) := by decide +kernel
theorem dX5_clap_30 : decode cX5_clap 30 = .ok (.iload 4, 2) := by decide +kernel
theorem dX5_clap_32 : decode cX5_clap 32 = .ok (.aload_n 0, 1) := by decide +kernel
theorem dX5_clap_33 : decode cX5_clap 33 = .ok (.getfield 29, 3) := by decide +kernel
theorem dX5_clap_36 : decode cX5_clap 36 = .ok (.iload_n 3, 1) := by decide +kernel
theorem dX5_clap_37 : decode cX5_clap 37 = .ok (.iaload, 1) := by decide +kernel
theorem dX5_clap_38 : decode cX5_clap 38 = .ok (.if_icmp .ne 15, 3) := by decide +kernel
theorem dX5_clap_41 : decode cX5_clap 41 = .ok (.aload_n 0, 1) := by decide +kernel
theorem dX5_clap_42 : decode cX5_clap 42 = .ok (.getfield 81, 3) := by decide +kernel
theorem dX5_clap_45 : decode cX5_clap 45 = .ok (.iload_n 2, 1) := by decide +kernel
theorem dX5_clap_46 : decode cX5_clap 46 = .ok (.ishr, 1) := by decide +kernel
theorem dX5_clap_47 : decode cX5_clap 47 = .ok (.iconst 1, 1) := by decide +kernel
theorem dX5_clap_48 : decode cX5_clap 48 = .ok (.iand, 1) := by decide +kernel
theorem dX5_clap_49 : decode cX5_clap 49 = .ok (.iconst 1, 1) := by decide +kernel
theorem dX5_clap_50 : decode cX5_clap 50 = .ok (.if_icmp .ne 4, 3) := by decide +kernel
theorem dX5_clap_53 : decode cX5_clap 53 = .ok (.return_, 1) := by decide +kernel
theorem dX5_clap_54 : decode cX5_clap 54 = .ok (.aload_n 0, 1) := by decide +kernel
theorem dX5_clap_55 : decode cX5_clap 55 = .ok (.dup, 1) := by decide +kernel
theorem dX5_clap_56 : decode cX5_clap 56 = .ok (.getfield 81, 3) := by decide +kernel
theorem dX5_clap_59 : decode cX5_clap 59 = .ok (.iconst 1, 1) := by decide +kernel
theorem dX5_clap_60 : decode cX5_clap 60 = .ok (.iload_n 2, 1) := by decide +kernel
theorem dX5_clap_61 : decode cX5_clap 61 = .ok (.ishl, 1) := by decide +kernel
theorem dX5_clap_62 : decode cX5_clap 62 = .ok (.ior, 1) := by decide +kernel
theorem dX5_clap_63 : decode cX5_clap 63 = .ok (.putfield 81, 3) := by decide +kernel
theorem dX5_clap_66 : decode cX5_clap 66 = .ok (.iload_n 1, 1) := by decide +kernel
theorem dX5_clap_67 : decode cX5_clap 67 = .ok (.iload_n 2, 1) := by decide +kernel
theorem dX5_clap_68 : decode cX5_clap 68 = .ok (.aload_n 0, 1) := by decide +kernel
theorem dX5_clap_69 : decode cX5_clap 69 = .ok (.getfield 15, 3) := by decide +kernel
theorem dX5_clap_72 : decode cX5_clap 72 = .ok (.if_icmp .ne 10, 3) := by decide +kernel
theorem dX5_clap_75 : decode cX5_clap 75 = .ok (.aload_n 0, 1) := by decide +kernel
theorem dX5_clap_76 : decode cX5_clap 76 = .ok (.getfield 47, 3) := by decide +kernel
theorem dX5_clap_79 : decode cX5_clap 79 = .ok (.goto 16, 3) := by decide +kernel
theorem dX5_clap_82 : decode cX5_clap 82 = .ok (.aload_n 0, 1) := by decide +kernel
theorem dX5_clap_83 : decode cX5_clap 83 = .ok (.getfield 3, 3) := by decide +kernel
theorem dX5_clap_86 : decode cX5_clap 86 = .ok (.getfield 78, 3) := by decide +kernel
theorem dX5_clap_89 : decode cX5_clap 89 = .ok (.iconst 5, 1) := by decide +kernel
theorem dX5_clap_90 : decode cX5_clap 90 = .ok (.iload_n 2, 1) := by decide +kernel
theorem dX5_clap_91 : decode cX5_clap 91 = .ok (.imul, 1) := by decide +kernel
theorem dX5_clap_92 : decode cX5_clap 92 = .ok (.iconst 4, 1) := by decide +kernel
theorem dX5_clap_93 : decode cX5_clap 93 = .ok (.iadd, 1) := by decide +kernel
theorem dX5_clap_94 : decode cX5_clap 94 = .ok (.iaload, 1) := by decide +kernel
theorem dX5_clap_95 : decode cX5_clap 95 = .ok (.iadd, 1) := by decide +kernel
theorem dX5_clap_96 : decode cX5_clap 96 = .ok (.istore 5, 2) := by decide +kernel
theorem dX5_clap_98 : decode cX5_clap 98 = .ok (.iload 5, 2) := by decide +kernel
theorem dX5_clap_100 : decode cX5_clap 100 = .ok (.sipush 200, 3) := by decide +kernel
theorem dX5_clap_103 : decode cX5_clap 103 = .ok (.if_icmp .gt 20, 3) := by decide +kernel
theorem dX5_clap_106 : decode cX5_clap 106 = .ok (.aload_n 0, 1) := by decide +kernel
theorem dX5_clap_107 : decode cX5_clap 107 = .ok (.iload 5, 2) := by decide +kernel
theorem dX5_clap_109 : decode cX5_clap 109 = .ok (.iload_n 2, 1) := by decide +kernel
theorem dX5_clap_110 : decode cX5_clap 110 = .ok (.aload_n 0, 1) := by decide +kernel
theorem dX5_clap_111 : decode cX5_clap 111 = .ok (.getfield 26, 3) := by decide +kernel
theorem dX5_clap_114 : decode cX5_clap 114 = .ok (.iload_n 3, 1) := by decide +kernel
theorem dX5_clap_115 : decode cX5_clap 115 = .ok (.iaload, 1) := by decide +kernel
theorem dX5_clap_116 : decode cX5_clap 116 = .ok (.iload 4, 2) := by decide +kernel
theorem dX5_clap_118 : decode cX5_clap 118 = .ok (.bipush 60, 2) := by decide +kernel
theorem dX5_clap_120 : decode cX5_clap 120 = .ok (.invokevirtual 84, 3) := by decide +kernel
theorem dX5_clap_123 : decode cX5_clap 123 = .ok (.return_, 1) := by decide +kernel
set_option maxRecDepth 20000 in
theorem ggX5_arrive_X5_hear : GoodIn wsX5_arrive wsX5_hear := goodIn_r _ [6, 7, 1, 8, 9, 10, 11, 12, 13, 14, 50, 51, 52, 53, 54, 55, 56, 57, 58, 59, 60, 61, 62, 63, 64, 65, 66, 67, 68, 69, 70, 71, 72, 73, 74, 75, 76, 77, 78, 79, 80] (by decide +kernel) (by decide +kernel)
set_option maxRecDepth 20000 in
theorem gX5_arrive_X5_hear : GoodIn wsX5_arrive (wsV RX5 87 RX5 yX5_hear wsX5_hear) := goodIn_app (goodIn_of _ (by decide +kernel)) ggX5_arrive_X5_hear
set_option maxRecDepth 20000 in
theorem ggX5_arrive_X5_clap : GoodIn wsX5_arrive wsX5_clap := goodIn_r _ [18, 19, 20, 1, 10, 21, 22, 9, 23, 24, 25, 5, 26, 27, 28, 29, 30, 31, 32, 33, 34, 35, 36, 50, 51, 52, 53, 54, 55, 56, 57, 58, 59, 60, 61, 62, 63, 64, 65, 66, 67, 68, 69, 70, 71, 72, 73, 74, 75, 76, 77, 78, 79, 80] (by decide +kernel) (by decide +kernel)
set_option maxRecDepth 20000 in
theorem gX5_arrive_X5_clap : GoodIn wsX5_arrive (wsV RX5 91 RX5 yX5_clap wsX5_clap) := goodIn_app (goodIn_of _ (by decide +kernel)) ggX5_arrive_X5_clap
set_option maxRecDepth 20000 in
theorem ggX5_arrive_X6_touches : GoodIn wsX5_arrive wsX6_touches := goodIn_r _ [40, 41, 71, 72, 73, 74, 75, 76, 77, 78, 79, 80] (by decide +kernel) (by decide +kernel)
set_option maxRecDepth 20000 in
theorem gX5_arrive_X6_touches_n97 : GoodIn wsX5_arrive (wsX6_touches) := ggX5_arrive_X6_touches
set_option maxRecDepth 20000 in
theorem ggX5_arrive_X6_isOpen : GoodIn wsX5_arrive wsX6_isOpen := goodIn_r _ [44, 45, 41, 71, 72, 73, 74, 75, 76, 77, 78, 79, 80] (by decide +kernel) (by decide +kernel)
set_option maxRecDepth 20000 in
theorem gX5_arrive_X6_isOpen_n104 : GoodIn wsX5_arrive (wsX6_isOpen) := ggX5_arrive_X6_isOpen
set_option maxRecDepth 20000 in
theorem ggX5_arrive_X5_go : GoodIn wsX5_arrive wsX5_go := goodIn_r _ [49, 1, 28, 29, 30, 31, 32, 5, 33, 34, 35, 36, 50, 51, 52, 53, 54, 55, 56, 57, 58, 59, 60, 61, 62, 63, 64, 65, 66, 67, 68, 69, 70, 71, 72, 73, 74, 75, 76, 77, 78, 79, 80] (by decide +kernel) (by decide +kernel)
set_option maxRecDepth 20000 in
theorem gX5_arrive_X5_go : GoodIn wsX5_arrive (wsV RX5 107 RX5 yX5_go wsX5_go) := goodIn_app (goodIn_of _ (by decide +kernel)) ggX5_arrive_X5_go
theorem dX5_arrive_0 : decode cX5_arrive 0 = .ok (.iload_n 1, 1) := by decide +kernel
theorem dX5_arrive_1 : decode cX5_arrive 1 = .ok (.bipush 19, 2) := by decide +kernel
theorem dX5_arrive_3 : decode cX5_arrive 3 = .ok (.irem, 1) := by decide +kernel
theorem dX5_arrive_4 : decode cX5_arrive 4 = .ok (.iconst 1, 1) := by decide +kernel
theorem dX5_arrive_5 : decode cX5_arrive 5 = .ok (.isub, 1) := by decide +kernel
theorem dX5_arrive_6 : decode cX5_arrive 6 = .ok (.istore_n 3, 1) := by decide +kernel
theorem dX5_arrive_7 : decode cX5_arrive 7 = .ok (.iload_n 1, 1) := by decide +kernel
theorem dX5_arrive_8 : decode cX5_arrive 8 = .ok (.bipush 19, 2) := by decide +kernel
theorem dX5_arrive_10 : decode cX5_arrive 10 = .ok (.idiv, 1) := by decide +kernel
theorem dX5_arrive_11 : decode cX5_arrive 11 = .ok (.bipush 17, 2) := by decide +kernel
theorem dX5_arrive_13 : decode cX5_arrive 13 = .ok (.irem, 1) := by decide +kernel
theorem dX5_arrive_14 : decode cX5_arrive 14 = .ok (.istore 4, 2) := by decide +kernel
theorem dX5_arrive_16 : decode cX5_arrive 16 = .ok (.iload_n 1, 1) := by decide +kernel
theorem dX5_arrive_17 : decode cX5_arrive 17 = .ok (.bipush 19, 2) := by decide +kernel
theorem dX5_arrive_19 : decode cX5_arrive 19 = .ok (.idiv, 1) := by decide +kernel
theorem dX5_arrive_20 : decode cX5_arrive 20 = .ok (.bipush 17, 2) := by decide +kernel
theorem dX5_arrive_22 : decode cX5_arrive 22 = .ok (.idiv, 1) := by decide +kernel
theorem dX5_arrive_23 : decode cX5_arrive 23 = .ok (.bipush 12, 2) := by decide +kernel
theorem dX5_arrive_25 : decode cX5_arrive 25 = .ok (.irem, 1) := by decide +kernel
theorem dX5_arrive_26 : decode cX5_arrive 26 = .ok (.istore 5, 2) := by decide +kernel
theorem dX5_arrive_28 : decode cX5_arrive 28 = .ok (.iload_n 1, 1) := by decide +kernel
theorem dX5_arrive_29 : decode cX5_arrive 29 = .ok (.bipush 19, 2) := by decide +kernel
theorem dX5_arrive_31 : decode cX5_arrive 31 = .ok (.idiv, 1) := by decide +kernel
theorem dX5_arrive_32 : decode cX5_arrive 32 = .ok (.bipush 17, 2) := by decide +kernel
theorem dX5_arrive_34 : decode cX5_arrive 34 = .ok (.idiv, 1) := by decide +kernel
theorem dX5_arrive_35 : decode cX5_arrive 35 = .ok (.bipush 12, 2) := by decide +kernel
theorem dX5_arrive_37 : decode cX5_arrive 37 = .ok (.idiv, 1) := by decide +kernel
theorem dX5_arrive_38 : decode cX5_arrive 38 = .ok (.istore 6, 2) := by decide +kernel
theorem dX5_arrive_40 : decode cX5_arrive 40 = .ok (.iload 5, 2) := by decide +kernel
theorem dX5_arrive_42 : decode cX5_arrive 42 = .ok (.ifCond .ne 17, 3) := by decide +kernel
theorem dX5_arrive_45 : decode cX5_arrive 45 = .ok (.iload_n 3, 1) := by decide +kernel
theorem dX5_arrive_46 : decode cX5_arrive 46 = .ok (.iconst (-1), 1) := by decide +kernel
theorem dX5_arrive_47 : decode cX5_arrive 47 = .ok (.if_icmp .eq 12, 3) := by decide +kernel
theorem dX5_arrive_50 : decode cX5_arrive 50 = .ok (.aload_n 0, 1) := by decide +kernel
theorem dX5_arrive_51 : decode cX5_arrive 51 = .ok (.iload 6, 2) := by decide +kernel
theorem dX5_arrive_53 : decode cX5_arrive 53 = .ok (.iload 4, 2) := by decide +kernel
theorem dX5_arrive_55 : decode cX5_arrive 55 = .ok (.iload_n 2, 1) := by decide +kernel
theorem dX5_arrive_56 : decode cX5_arrive 56 = .ok (.invokevirtual 87, 3) := by decide +kernel
theorem dX5_arrive_59 : decode cX5_arrive 59 = .ok (.iload_n 2, 1) := by decide +kernel
theorem dX5_arrive_60 : decode cX5_arrive 60 = .ok (.iconst 2, 1) := by decide +kernel
theorem dX5_arrive_61 : decode cX5_arrive 61 = .ok (.aload_n 0, 1) := by decide +kernel
theorem dX5_arrive_62 : decode cX5_arrive 62 = .ok (.getfield 3, 3) := by decide +kernel
theorem dX5_arrive_65 : decode cX5_arrive 65 = .ok (.getfield 78, 3) := by decide +kernel
theorem dX5_arrive_68 : decode cX5_arrive 68 = .ok (.iconst 5, 1) := by decide +kernel
theorem dX5_arrive_69 : decode cX5_arrive 69 = .ok (.iload 5, 2) := by decide +kernel
theorem dX5_arrive_71 : decode cX5_arrive 71 = .ok (.imul, 1) := by decide +kernel
theorem dX5_arrive_72 : decode cX5_arrive 72 = .ok (.iconst 2, 1) := by decide +kernel
theorem dX5_arrive_73 : decode cX5_arrive 73 = .ok (.iadd, 1) := by decide +kernel
theorem dX5_arrive_74 : decode cX5_arrive 74 = .ok (.iaload, 1) := by decide +kernel
theorem dX5_arrive_75 : decode cX5_arrive 75 = .ok (.imul, 1) := by decide +kernel
theorem dX5_arrive_76 : decode cX5_arrive 76 = .ok (.iconst 1, 1) := by decide +kernel
theorem dX5_arrive_77 : decode cX5_arrive 77 = .ok (.iadd, 1) := by decide +kernel
theorem dX5_arrive_78 : decode cX5_arrive 78 = .ok (.if_icmp .ge 4, 3) := by decide +kernel
theorem dX5_arrive_81 : decode cX5_arrive 81 = .ok (.return_, 1) := by decide +kernel
theorem dX5_arrive_82 : decode cX5_arrive 82 = .ok (.aload_n 0, 1) := by decide +kernel
theorem dX5_arrive_83 : decode cX5_arrive 83 = .ok (.iload 6, 2) := by decide +kernel
theorem dX5_arrive_85 : decode cX5_arrive 85 = .ok (.iload 5, 2) := by decide +kernel
theorem dX5_arrive_87 : decode cX5_arrive 87 = .ok (.iload 4, 2) := by decide +kernel
theorem dX5_arrive_89 : decode cX5_arrive 89 = .ok (.invokevirtual 91, 3) := by decide +kernel
theorem dX5_arrive_92 : decode cX5_arrive 92 = .ok (.iconst 0, 1) := by decide +kernel
theorem dX5_arrive_93 : decode cX5_arrive 93 = .ok (.istore 7, 2) := by decide +kernel
theorem dX5_arrive_95 : decode cX5_arrive 95 = .ok (.iload 7, 2) := by decide +kernel
theorem dX5_arrive_97 : decode cX5_arrive 97 = .ok (.aload_n 0, 1) := by decide +kernel
theorem dX5_arrive_98 : decode cX5_arrive 98 = .ok (.getfield 3, 3) := by decide +kernel
theorem dX5_arrive_101 : decode cX5_arrive 101 = .ok (.getfield 94, 3) := by decide +kernel
theorem dX5_arrive_104 : decode cX5_arrive 104 = .ok (.if_icmp .ge 61, 3) := by decide +kernel
theorem dX5_arrive_107 : decode cX5_arrive 107 = .ok (.iload 7, 2) := by decide +kernel
theorem dX5_arrive_109 : decode cX5_arrive 109 = .ok (.iload_n 3, 1) := by decide +kernel
theorem dX5_arrive_110 : decode cX5_arrive 110 = .ok (.if_icmp .eq 49, 3) := by decide +kernel
theorem dX5_arrive_113 : decode cX5_arrive 113 = .ok (.aload_n 0, 1) := by decide +kernel
theorem dX5_arrive_114 : decode cX5_arrive 114 = .ok (.getfield 3, 3) := by decide +kernel
theorem dX5_arrive_117 : decode cX5_arrive 117 = .ok (.iload 7, 2) := by decide +kernel
theorem dX5_arrive_119 : decode cX5_arrive 119 = .ok (.iload 5, 2) := by decide +kernel
theorem dX5_arrive_121 : decode cX5_arrive 121 = .ok (.invokevirtual 97, 3) := by decide +kernel
theorem dX5_arrive_124 : decode cX5_arrive 124 = .ok (.ifCond .eq 35, 3) := by decide +kernel
theorem dX5_arrive_127 : decode cX5_arrive 127 = .ok (.aload_n 0, 1) := by decide +kernel
theorem dX5_arrive_128 : decode cX5_arrive 128 = .ok (.getfield 3, 3) := by decide +kernel
theorem dX5_arrive_131 : decode cX5_arrive 131 = .ok (.iload 7, 2) := by decide +kernel
theorem dX5_arrive_133 : decode cX5_arrive 133 = .ok (.aload_n 0, 1) := by decide +kernel
theorem dX5_arrive_134 : decode cX5_arrive 134 = .ok (.getfield 3, 3) := by decide +kernel
theorem dX5_arrive_137 : decode cX5_arrive 137 = .ok (.getfield 101, 3) := by decide +kernel
theorem dX5_arrive_140 : decode cX5_arrive 140 = .ok (.invokevirtual 104, 3) := by decide +kernel
theorem dX5_arrive_143 : decode cX5_arrive 143 = .ok (.ifCond .eq 16, 3) := by decide +kernel
theorem dX5_arrive_146 : decode cX5_arrive 146 = .ok (.aload_n 0, 1) := by decide +kernel
theorem dX5_arrive_147 : decode cX5_arrive 147 = .ok (.iload 6, 2) := by decide +kernel
theorem dX5_arrive_149 : decode cX5_arrive 149 = .ok (.iload 5, 2) := by decide +kernel
theorem dX5_arrive_151 : decode cX5_arrive 151 = .ok (.iload 4, 2) := by decide +kernel
theorem dX5_arrive_153 : decode cX5_arrive 153 = .ok (.iload 7, 2) := by decide +kernel
theorem dX5_arrive_155 : decode cX5_arrive 155 = .ok (.iload_n 2, 1) := by decide +kernel
theorem dX5_arrive_156 : decode cX5_arrive 156 = .ok (.invokevirtual 107, 3) := by decide +kernel
theorem dX5_arrive_159 : decode cX5_arrive 159 = .ok (.iinc 7 1, 3) := by decide +kernel
theorem dX5_arrive_162 : decode cX5_arrive 162 = .ok (.goto (-67), 3) := by decide +kernel
theorem dX5_arrive_165 : decode cX5_arrive 165 = .ok (.iload_n 3, 1) := by decide +kernel
theorem dX5_arrive_166 : decode cX5_arrive 166 = .ok (.iconst (-1), 1) := by decide +kernel
theorem dX5_arrive_167 : decode cX5_arrive 167 = .ok (.if_icmp .eq 36, 3) := by decide +kernel
theorem dX5_arrive_170 : decode cX5_arrive 170 = .ok (.iload 5, 2) := by decide +kernel
theorem dX5_arrive_172 : decode cX5_arrive 172 = .ok (.ifCond .eq 31, 3) := by decide +kernel
theorem dX5_arrive_175 : decode cX5_arrive 175 = .ok (.aload_n 0, 1) := by decide +kernel
theorem dX5_arrive_176 : decode cX5_arrive 176 = .ok (.iload 6, 2) := by decide +kernel
theorem dX5_arrive_178 : decode cX5_arrive 178 = .ok (.iload 5, 2) := by decide +kernel
theorem dX5_arrive_180 : decode cX5_arrive 180 = .ok (.iload 4, 2) := by decide +kernel
theorem dX5_arrive_182 : decode cX5_arrive 182 = .ok (.iload_n 3, 1) := by decide +kernel
theorem dX5_arrive_183 : decode cX5_arrive 183 = .ok (.iload_n 2, 1) := by decide +kernel
theorem dX5_arrive_184 : decode cX5_arrive 184 = .ok (.aload_n 0, 1) := by decide +kernel
theorem dX5_arrive_185 : decode cX5_arrive 185 = .ok (.getfield 3, 3) := by decide +kernel
theorem dX5_arrive_188 : decode cX5_arrive 188 = .ok (.getfield 78, 3) := by decide +kernel
theorem dX5_arrive_191 : decode cX5_arrive 191 = .ok (.iconst 5, 1) := by decide +kernel
theorem dX5_arrive_192 : decode cX5_arrive 192 = .ok (.iload 5, 2) := by decide +kernel
theorem dX5_arrive_194 : decode cX5_arrive 194 = .ok (.imul, 1) := by decide +kernel
theorem dX5_arrive_195 : decode cX5_arrive 195 = .ok (.iaload, 1) := by decide +kernel
theorem dX5_arrive_196 : decode cX5_arrive 196 = .ok (.imul, 1) := by decide +kernel
theorem dX5_arrive_197 : decode cX5_arrive 197 = .ok (.bipush 100, 2) := by decide +kernel
theorem dX5_arrive_199 : decode cX5_arrive 199 = .ok (.idiv, 1) := by decide +kernel
theorem dX5_arrive_200 : decode cX5_arrive 200 = .ok (.invokevirtual 107, 3) := by decide +kernel
theorem dX5_arrive_203 : decode cX5_arrive 203 = .ok (.return_, 1) := by decide +kernel
set_option maxRecDepth 20000 in
theorem ggX5_say_X5_start : GoodIn wsX5_say wsX5_start := goodIn_r _ [21, 22, 3, 23, 24, 25, 26, 27, 28, 20, 29, 8, 15, 16, 60, 61, 62, 63, 64, 65, 66, 67, 68, 69, 70, 71, 72, 73, 74, 75, 76, 77, 78, 79, 80] (by decide +kernel) (by decide +kernel)
set_option maxRecDepth 20000 in
theorem gX5_say_X5_start : GoodIn wsX5_say (wsV RX5 84 RX5 yX5_start wsX5_start) := goodIn_app (goodIn_of _ (by decide +kernel)) ggX5_say_X5_start
set_option maxRecDepth 20000 in
theorem ggX5_say_X5_arrive : GoodIn wsX5_say wsX5_arrive := goodIn_r _ [33, 34, 35, 36, 37, 20, 38, 4, 39, 22, 23, 5, 7, 10, 6, 40, 41, 42, 43, 44, 45, 9, 46, 17, 18, 19, 21, 3, 24, 25, 26, 27, 28, 29, 8, 15, 16, 47, 48, 49, 50, 51, 52, 53, 54, 55, 56, 57, 58, 59, 60, 61, 62, 63, 64, 65, 66, 67, 68, 69, 70, 71, 72, 73, 74, 75, 76, 77, 78, 79, 80, 81, 82, 83, 84, 85, 86, 87, 88, 89, 90] (by decide +kernel) (by decide +kernel)
set_option maxRecDepth 20000 in
theorem gX5_say_X5_arrive : GoodIn wsX5_say (wsV RX5 122 RX5 yX5_arrive wsX5_arrive) := goodIn_app (goodIn_of _ (by decide +kernel)) ggX5_say_X5_arrive
theorem dX5_say_0 : decode cX5_say 0 = .ok (.aload_n 0, 1) := by decide +kernel
theorem dX5_say_1 : decode cX5_say 1 = .ok (.iload_n 1, 1) := by decide +kernel
theorem dX5_say_2 : decode cX5_say 2 = .ok (.putfield 110, 3) := by decide +kernel
theorem dX5_say_5 : decode cX5_say 5 = .ok (.aload_n 0, 1) := by decide +kernel
theorem dX5_say_6 : decode cX5_say 6 = .ok (.iconst 0, 1) := by decide +kernel
theorem dX5_say_7 : decode cX5_say 7 = .ok (.putfield 113, 3) := by decide +kernel
theorem dX5_say_10 : decode cX5_say 10 = .ok (.aload_n 0, 1) := by decide +kernel
theorem dX5_say_11 : decode cX5_say 11 = .ok (.iconst 0, 1) := by decide +kernel
theorem dX5_say_12 : decode cX5_say 12 = .ok (.putfield 53, 3) := by decide +kernel
theorem dX5_say_15 : decode cX5_say 15 = .ok (.aload_n 0, 1) := by decide +kernel
theorem dX5_say_16 : decode cX5_say 16 = .ok (.iconst 0, 1) := by decide +kernel
theorem dX5_say_17 : decode cX5_say 17 = .ok (.putfield 63, 3) := by decide +kernel
theorem dX5_say_20 : decode cX5_say 20 = .ok (.aload_n 0, 1) := by decide +kernel
theorem dX5_say_21 : decode cX5_say 21 = .ok (.iconst 0, 1) := by decide +kernel
theorem dX5_say_22 : decode cX5_say 22 = .ok (.putfield 69, 3) := by decide +kernel
theorem dX5_say_25 : decode cX5_say 25 = .ok (.aload_n 0, 1) := by decide +kernel
theorem dX5_say_26 : decode cX5_say 26 = .ok (.iconst 0, 1) := by decide +kernel
theorem dX5_say_27 : decode cX5_say 27 = .ok (.putfield 75, 3) := by decide +kernel
theorem dX5_say_30 : decode cX5_say 30 = .ok (.aload_n 0, 1) := by decide +kernel
theorem dX5_say_31 : decode cX5_say 31 = .ok (.iconst (-1), 1) := by decide +kernel
theorem dX5_say_32 : decode cX5_say 32 = .ok (.putfield 72, 3) := by decide +kernel
theorem dX5_say_35 : decode cX5_say 35 = .ok (.aload_n 0, 1) := by decide +kernel
theorem dX5_say_36 : decode cX5_say 36 = .ok (.iconst 0, 1) := by decide +kernel
theorem dX5_say_37 : decode cX5_say 37 = .ok (.putfield 50, 3) := by decide +kernel
theorem dX5_say_40 : decode cX5_say 40 = .ok (.aload_n 0, 1) := by decide +kernel
theorem dX5_say_41 : decode cX5_say 41 = .ok (.iconst 0, 1) := by decide +kernel
theorem dX5_say_42 : decode cX5_say 42 = .ok (.putfield 81, 3) := by decide +kernel
theorem dX5_say_45 : decode cX5_say 45 = .ok (.iload_n 1, 1) := by decide +kernel
theorem dX5_say_46 : decode cX5_say 46 = .ok (.istore_n 3, 1) := by decide +kernel
theorem dX5_say_47 : decode cX5_say 47 = .ok (.iload_n 3, 1) := by decide +kernel
theorem dX5_say_48 : decode cX5_say 48 = .ok (.ifCond .le 21, 3) := by decide +kernel
theorem dX5_say_51 : decode cX5_say 51 = .ok (.aload_n 0, 1) := by decide +kernel
theorem dX5_say_52 : decode cX5_say 52 = .ok (.dup, 1) := by decide +kernel
theorem dX5_say_53 : decode cX5_say 53 = .ok (.getfield 113, 3) := by decide +kernel
theorem dX5_say_56 : decode cX5_say 56 = .ok (.iconst 1, 1) := by decide +kernel
theorem dX5_say_57 : decode cX5_say 57 = .ok (.iadd, 1) := by decide +kernel
theorem dX5_say_58 : decode cX5_say 58 = .ok (.putfield 113, 3) := by decide +kernel
theorem dX5_say_61 : decode cX5_say 61 = .ok (.iload_n 3, 1) := by decide +kernel
theorem dX5_say_62 : decode cX5_say 62 = .ok (.bipush 10, 2) := by decide +kernel
theorem dX5_say_64 : decode cX5_say 64 = .ok (.idiv, 1) := by decide +kernel
theorem dX5_say_65 : decode cX5_say 65 = .ok (.istore_n 3, 1) := by decide +kernel
theorem dX5_say_66 : decode cX5_say 66 = .ok (.goto (-19), 3) := by decide +kernel
theorem dX5_say_69 : decode cX5_say 69 = .ok (.iconst 1, 1) := by decide +kernel
theorem dX5_say_70 : decode cX5_say 70 = .ok (.istore_n 3, 1) := by decide +kernel
theorem dX5_say_71 : decode cX5_say 71 = .ok (.iconst 1, 1) := by decide +kernel
theorem dX5_say_72 : decode cX5_say 72 = .ok (.istore 4, 2) := by decide +kernel
theorem dX5_say_74 : decode cX5_say 74 = .ok (.iload 4, 2) := by decide +kernel
theorem dX5_say_76 : decode cX5_say 76 = .ok (.aload_n 0, 1) := by decide +kernel
theorem dX5_say_77 : decode cX5_say 77 = .ok (.getfield 113, 3) := by decide +kernel
theorem dX5_say_80 : decode cX5_say 80 = .ok (.if_icmp .ge 14, 3) := by decide +kernel
theorem dX5_say_83 : decode cX5_say 83 = .ok (.iload_n 3, 1) := by decide +kernel
theorem dX5_say_84 : decode cX5_say 84 = .ok (.bipush 10, 2) := by decide +kernel
theorem dX5_say_86 : decode cX5_say 86 = .ok (.imul, 1) := by decide +kernel
theorem dX5_say_87 : decode cX5_say 87 = .ok (.istore_n 3, 1) := by decide +kernel
theorem dX5_say_88 : decode cX5_say 88 = .ok (.iinc 4 1, 3) := by decide +kernel
theorem dX5_say_91 : decode cX5_say 91 = .ok (.goto (-17), 3) := by decide +kernel
theorem dX5_say_94 : decode cX5_say 94 = .ok (.iconst 0, 1) := by decide +kernel
theorem dX5_say_95 : decode cX5_say 95 = .ok (.istore 4, 2) := by decide +kernel
theorem dX5_say_97 : decode cX5_say 97 = .ok (.iload 4, 2) := by decide +kernel
theorem dX5_say_99 : decode cX5_say 99 = .ok (.bipush 6, 2) := by decide +kernel
theorem dX5_say_101 : decode cX5_say 101 = .ok (.if_icmp .ge 17, 3) := by decide +kernel
theorem dX5_say_104 : decode cX5_say 104 = .ok (.aload_n 0, 1) := by decide +kernel
theorem dX5_say_105 : decode cX5_say 105 = .ok (.getfield 19, 3) := by decide +kernel
theorem dX5_say_108 : decode cX5_say 108 = .ok (.iload 4, 2) := by decide +kernel
theorem dX5_say_110 : decode cX5_say 110 = .ok (.iconst (-1), 1) := by decide +kernel
theorem dX5_say_111 : decode cX5_say 111 = .ok (.iastore, 1) := by decide +kernel
theorem dX5_say_112 : decode cX5_say 112 = .ok (.iinc 4 1, 3) := by decide +kernel
theorem dX5_say_115 : decode cX5_say 115 = .ok (.goto (-18), 3) := by decide +kernel
theorem dX5_say_118 : decode cX5_say 118 = .ok (.iconst 0, 1) := by decide +kernel
theorem dX5_say_119 : decode cX5_say 119 = .ok (.istore 4, 2) := by decide +kernel
theorem dX5_say_121 : decode cX5_say 121 = .ok (.iload 4, 2) := by decide +kernel
theorem dX5_say_123 : decode cX5_say 123 = .ok (.aload_n 0, 1) := by decide +kernel
theorem dX5_say_124 : decode cX5_say 124 = .ok (.getfield 113, 3) := by decide +kernel
theorem dX5_say_127 : decode cX5_say 127 = .ok (.if_icmp .ge 37, 3) := by decide +kernel
theorem dX5_say_130 : decode cX5_say 130 = .ok (.aload_n 0, 1) := by decide +kernel
theorem dX5_say_131 : decode cX5_say 131 = .ok (.iload 4, 2) := by decide +kernel
theorem dX5_say_133 : decode cX5_say 133 = .ok (.iload_n 2, 1) := by decide +kernel
theorem dX5_say_134 : decode cX5_say 134 = .ok (.imul, 1) := by decide +kernel
theorem dX5_say_135 : decode cX5_say 135 = .ok (.iconst 0, 1) := by decide +kernel
theorem dX5_say_136 : decode cX5_say 136 = .ok (.iload 4, 2) := by decide +kernel
theorem dX5_say_138 : decode cX5_say 138 = .ok (.iload_n 1, 1) := by decide +kernel
theorem dX5_say_139 : decode cX5_say 139 = .ok (.iload_n 3, 1) := by decide +kernel
theorem dX5_say_140 : decode cX5_say 140 = .ok (.idiv, 1) := by decide +kernel
theorem dX5_say_141 : decode cX5_say 141 = .ok (.bipush 10, 2) := by decide +kernel
theorem dX5_say_143 : decode cX5_say 143 = .ok (.irem, 1) := by decide +kernel
theorem dX5_say_144 : decode cX5_say 144 = .ok (.bipush 100, 2) := by decide +kernel
theorem dX5_say_146 : decode cX5_say 146 = .ok (.invokevirtual 84, 3) := by decide +kernel
theorem dX5_say_149 : decode cX5_say 149 = .ok (.iconst 1, 1) := by decide +kernel
theorem dX5_say_150 : decode cX5_say 150 = .ok (.iload_n 3, 1) := by decide +kernel
theorem dX5_say_151 : decode cX5_say 151 = .ok (.bipush 10, 2) := by decide +kernel
theorem dX5_say_153 : decode cX5_say 153 = .ok (.idiv, 1) := by decide +kernel
theorem dX5_say_154 : decode cX5_say 154 = .ok (.invokestatic 116, 3) := by decide +kernel
theorem dX5_say_157 : decode cX5_say 157 = .ok (.istore_n 3, 1) := by decide +kernel
theorem dX5_say_158 : decode cX5_say 158 = .ok (.iinc 4 1, 3) := by decide +kernel
theorem dX5_say_161 : decode cX5_say 161 = .ok (.goto (-40), 3) := by decide +kernel
