theorem dX3_init_39 : decode cX3_init 39 = .ok (.newarray .long, 2) := by decide +kernel
theorem dX3_init_41 : decode cX3_init 41 = .ok (.putfield 29, 3) := by decide +kernel
theorem dX3_init_44 : decode cX3_init 44 = .ok (.aload_n 0, 1) := by decide +kernel
theorem dX3_init_45 : decode cX3_init 45 = .ok (.iconst 0, 1) := by decide +kernel
theorem dX3_init_46 : decode cX3_init 46 = .ok (.putfield 33, 3) := by decide +kernel
theorem dX3_init_49 : decode cX3_init 49 = .ok (.aload_n 0, 1) := by decide +kernel
theorem dX3_init_50 : decode cX3_init 50 = .ok (.iconst 0, 1) := by decide +kernel
theorem dX3_init_51 : decode cX3_init 51 = .ok (.putfield 37, 3) := by decide +kernel
theorem dX3_init_54 : decode cX3_init 54 = .ok (.return_, 1) := by decide +kernel
set_option maxRecDepth 20000 in
theorem ggX3_runThrough_X4_placesOf : GoodIn wsX3_runThrough wsX4_placesOf := goodIn_r _ [4] (by decide +kernel) (by decide +kernel)
set_option maxRecDepth 20000 in
theorem gX3_runThrough_X4_placesOf_n40 : GoodIn wsX3_runThrough (wsX4_placesOf) := ggX3_runThrough_X4_placesOf
set_option maxRecDepth 20000 in
theorem ggX3_runThrough_X2_begin : GoodIn wsX3_runThrough wsX2_begin := goodIn_r _ [9, 10, 11, 12, 13, 14, 15, 16, 17, 18, 19, 20, 144, 145, 146, 147, 148, 149, 150, 151] (by decide +kernel) (by decide +kernel)
set_option maxRecDepth 20000 in
theorem gX3_runThrough_X2_begin : GoodIn wsX3_runThrough (wsV RX3 44 RX2 yX2_begin wsX2_begin) := goodIn_app (goodIn_of _ (by decide +kernel)) ggX3_runThrough_X2_begin
set_option maxRecDepth 20000 in
theorem ggX3_runThrough_X3_begin : GoodIn wsX3_runThrough wsX3_begin := goodIn_r _ [25, 1, 26, 27, 28, 29, 30, 31, 32, 33, 34, 35, 36, 24, 37, 38, 39, 40, 41, 42, 43, 44, 45, 46, 47, 48, 137, 138, 139, 140, 141, 142, 143, 152, 153] (by decide +kernel) (by decide +kernel)
set_option maxRecDepth 20000 in
theorem gX3_runThrough_X3_begin : GoodIn wsX3_runThrough (wsV RX3 50 RX3 yX3_begin wsX3_begin) := goodIn_app (goodIn_of _ (by decide +kernel)) ggX3_runThrough_X3_begin
set_option maxRecDepth 20000 in
theorem ggX3_runThrough_X1_isEmpty : GoodIn wsX3_runThrough wsX1_isEmpty := goodIn_r _ [52, 33, 152, 153] (by decide +kernel) (by decide +kernel)
set_option maxRecDepth 20000 in
theorem gX3_runThrough_X1_isEmpty : GoodIn wsX3_runThrough (wsV RX3 53 RX1 yX1_isEmpty wsX1_isEmpty) := goodIn_app (goodIn_of _ (by decide +kernel)) ggX3_runThrough_X1_isEmpty
set_option maxRecDepth 20000 in
theorem ggX3_runThrough_X1_takeNext : GoodIn wsX3_runThrough wsX1_takeNext := goodIn_r _ [56, 48, 33, 57, 58, 59, 31, 60, 152, 153] (by decide +kernel) (by decide +kernel)
set_option maxRecDepth 20000 in
theorem gX3_runThrough_X1_takeNext : GoodIn wsX3_runThrough (wsV RX3 57 RX1 yX1_takeNext wsX1_takeNext) := goodIn_app (goodIn_of _ (by decide +kernel)) ggX3_runThrough_X1_takeNext
set_option maxRecDepth 20000 in
theorem ggX3_runThrough_X3_come : GoodIn wsX3_runThrough wsX3_come := goodIn_r _ [64, 26, 65, 39, 38, 66, 67, 31, 68, 69, 70, 71, 72, 73, 74, 75, 76, 77, 78, 79, 80, 81, 82, 83, 84, 85, 86, 87, 3, 88, 89, 90, 91, 8, 92, 12, 93, 11, 94, 95, 96, 97, 13, 15, 16, 14, 98, 99, 100, 101, 102, 103, 104, 105, 24, 106, 27, 34, 35, 36, 37, 40, 1, 41, 42, 43, 44, 45, 46, 47, 33, 48, 107, 108, 109, 110, 111, 112, 113, 114, 115, 116, 117, 118, 119, 120, 121, 122, 123, 124, 125, 126, 127, 128, 129, 130, 131, 132, 133, 134, 135, 136, 137, 138, 139, 140, 141, 142, 143, 154, 155, 156, 157, 158, 159, 160, 161, 162, 163, 164, 165, 166, 167, 168, 144, 145, 146, 147, 148, 149, 150, 151, 152, 153] (by decide +kernel) (by decide +kernel)
set_option maxRecDepth 20000 in
theorem gX3_runThrough_X3_come : GoodIn wsX3_runThrough (wsV RX3 61 RX3 yX3_come wsX3_come) := goodIn_app (goodIn_of _ (by decide +kernel)) ggX3_runThrough_X3_come
theorem dX3_runThrough_0 : decode cX3_runThrough 0 = .ok (.iload_n 1, 1) := by decide +kernel
theorem dX3_runThrough_1 : decode cX3_runThrough 1 = .ok (.invokestatic 40, 3) := by decide +kernel
theorem dX3_runThrough_4 : decode cX3_runThrough 4 = .ok (.istore 5, 2) := by decide +kernel
theorem dX3_runThrough_6 : decode cX3_runThrough 6 = .ok (.aload 4, 2) := by decide +kernel
theorem dX3_runThrough_8 : decode cX3_runThrough 8 = .ok (.iload 5, 2) := by decide +kernel
theorem dX3_runThrough_10 : decode cX3_runThrough 10 = .ok (.iload_n 3, 1) := by decide +kernel
theorem dX3_runThrough_11 : decode cX3_runThrough 11 = .ok (.invokevirtual 44, 3) := by decide +kernel
theorem dX3_runThrough_14 : decode cX3_runThrough 14 = .ok (.aload_n 0, 1) := by decide +kernel
theorem dX3_runThrough_15 : decode cX3_runThrough 15 = .ok (.iload_n 1, 1) := by decide +kernel
theorem dX3_runThrough_16 : decode cX3_runThrough 16 = .ok (.iload 5, 2) := by decide +kernel
theorem dX3_runThrough_18 : decode cX3_runThrough 18 = .ok (.iload_n 2, 1) := by decide +kernel
theorem dX3_runThrough_19 : decode cX3_runThrough 19 = .ok (.invokevirtual 50, 3) := by decide +kernel
theorem dX3_runThrough_22 : decode cX3_runThrough 22 = .ok (.iconst 0, 1) := by decide +kernel
theorem dX3_runThrough_23 : decode cX3_runThrough 23 = .ok (.istore 6, 2) := by decide +kernel
theorem dX3_runThrough_25 : decode cX3_runThrough 25 = .ok (.iload 6, 2) := by decide +kernel
theorem dX3_runThrough_27 : decode cX3_runThrough 27 = .ok (.sipush 629, 3) := by decide +kernel
theorem dX3_runThrough_30 : decode cX3_runThrough 30 = .ok (.if_icmp .ge 32, 3) := by decide +kernel
theorem dX3_runThrough_33 : decode cX3_runThrough 33 = .ok (.aload_n 0, 1) := by decide +kernel
theorem dX3_runThrough_34 : decode cX3_runThrough 34 = .ok (.getfield 18, 3) := by decide +kernel
theorem dX3_runThrough_37 : decode cX3_runThrough 37 = .ok (.invokevirtual 53, 3) := by decide +kernel
theorem dX3_runThrough_40 : decode cX3_runThrough 40 = .ok (.ifCond .ne 22, 3) := by decide +kernel
theorem dX3_runThrough_43 : decode cX3_runThrough 43 = .ok (.aload_n 0, 1) := by decide +kernel
theorem dX3_runThrough_44 : decode cX3_runThrough 44 = .ok (.aload_n 0, 1) := by decide +kernel
theorem dX3_runThrough_45 : decode cX3_runThrough 45 = .ok (.getfield 18, 3) := by decide +kernel
theorem dX3_runThrough_48 : decode cX3_runThrough 48 = .ok (.invokevirtual 57, 3) := by decide +kernel
theorem dX3_runThrough_51 : decode cX3_runThrough 51 = .ok (.aload 4, 2) := by decide +kernel
theorem dX3_runThrough_53 : decode cX3_runThrough 53 = .ok (.invokevirtual 61, 3) := by decide +kernel
theorem dX3_runThrough_56 : decode cX3_runThrough 56 = .ok (.iinc 6 1, 3) := by decide +kernel
theorem dX3_runThrough_59 : decode cX3_runThrough 59 = .ok (.goto (-34), 3) := by decide +kernel
theorem dX3_runThrough_62 : decode cX3_runThrough 62 = .ok (.return_, 1) := by decide +kernel
set_option maxRecDepth 20000 in
theorem ggX3_begin_X1_clear : GoodIn wsX3_begin wsX1_clear := goodIn_r _ [8, 9, 33, 34] (by decide +kernel) (by decide +kernel)
set_option maxRecDepth 20000 in
theorem gX3_begin_X1_clear : GoodIn wsX3_begin (wsV RX3 65 RX1 yX1_clear wsX1_clear) := goodIn_app (goodIn_of _ (by decide +kernel)) ggX3_begin_X1_clear
set_option maxRecDepth 20000 in
theorem ggX3_begin_X3_startRun : GoodIn wsX3_begin wsX3_startRun := goodIn_r _ [14, 2, 15, 16, 17, 1, 18, 19, 7, 20, 21, 22, 23, 24, 9, 25, 26, 27, 28, 29, 30, 31, 32, 33, 34] (by decide +kernel) (by decide +kernel)
set_option maxRecDepth 20000 in
theorem gX3_begin_X3_startRun : GoodIn wsX3_begin (wsV RX3 68 RX3 yX3_startRun wsX3_startRun) := goodIn_app (goodIn_of _ (by decide +kernel)) ggX3_begin_X3_startRun
theorem dX3_begin_0 : decode cX3_begin 0 = .ok (.aload_n 0, 1) := by decide +kernel
theorem dX3_begin_1 : decode cX3_begin 1 = .ok (.getfield 18, 3) := by decide +kernel
theorem dX3_begin_4 : decode cX3_begin 4 = .ok (.invokevirtual 65, 3) := by decide +kernel
theorem dX3_begin_7 : decode cX3_begin 7 = .ok (.aload_n 0, 1) := by decide +kernel
theorem dX3_begin_8 : decode cX3_begin 8 = .ok (.iconst 0, 1) := by decide +kernel
theorem dX3_begin_9 : decode cX3_begin 9 = .ok (.putfield 33, 3) := by decide +kernel
theorem dX3_begin_12 : decode cX3_begin 12 = .ok (.aload_n 0, 1) := by decide +kernel
theorem dX3_begin_13 : decode cX3_begin 13 = .ok (.iconst 0, 1) := by decide +kernel
theorem dX3_begin_14 : decode cX3_begin 14 = .ok (.putfield 37, 3) := by decide +kernel
theorem dX3_begin_17 : decode cX3_begin 17 = .ok (.iconst 1, 1) := by decide +kernel
theorem dX3_begin_18 : decode cX3_begin 18 = .ok (.istore 4, 2) := by decide +kernel
theorem dX3_begin_20 : decode cX3_begin 20 = .ok (.iconst 1, 1) := by decide +kernel
theorem dX3_begin_21 : decode cX3_begin 21 = .ok (.istore 5, 2) := by decide +kernel
theorem dX3_begin_23 : decode cX3_begin 23 = .ok (.iload 5, 2) := by decide +kernel
theorem dX3_begin_25 : decode cX3_begin 25 = .ok (.iload_n 2, 1) := by decide +kernel
theorem dX3_begin_26 : decode cX3_begin 26 = .ok (.if_icmp .ge 16, 3) := by decide +kernel
theorem dX3_begin_29 : decode cX3_begin 29 = .ok (.iload 4, 2) := by decide +kernel
theorem dX3_begin_31 : decode cX3_begin 31 = .ok (.bipush 10, 2) := by decide +kernel
theorem dX3_begin_33 : decode cX3_begin 33 = .ok (.imul, 1) := by decide +kernel
theorem dX3_begin_34 : decode cX3_begin 34 = .ok (.istore 4, 2) := by decide +kernel
theorem dX3_begin_36 : decode cX3_begin 36 = .ok (.iinc 5 1, 3) := by decide +kernel
theorem dX3_begin_39 : decode cX3_begin 39 = .ok (.goto (-16), 3) := by decide +kernel
theorem dX3_begin_42 : decode cX3_begin 42 = .ok (.iconst 0, 1) := by decide +kernel
theorem dX3_begin_43 : decode cX3_begin 43 = .ok (.istore 5, 2) := by decide +kernel
theorem dX3_begin_45 : decode cX3_begin 45 = .ok (.iload 5, 2) := by decide +kernel
theorem dX3_begin_47 : decode cX3_begin 47 = .ok (.iload_n 2, 1) := by decide +kernel
theorem dX3_begin_48 : decode cX3_begin 48 = .ok (.if_icmp .ge 41, 3) := by decide +kernel
theorem dX3_begin_51 : decode cX3_begin 51 = .ok (.iload 4, 2) := by decide +kernel
theorem dX3_begin_53 : decode cX3_begin 53 = .ok (.ifCond .le 36, 3) := by decide +kernel
theorem dX3_begin_56 : decode cX3_begin 56 = .ok (.aload_n 0, 1) := by decide +kernel
theorem dX3_begin_57 : decode cX3_begin 57 = .ok (.iload_n 1, 1) := by decide +kernel
theorem dX3_begin_58 : decode cX3_begin 58 = .ok (.iload 4, 2) := by decide +kernel
theorem dX3_begin_60 : decode cX3_begin 60 = .ok (.idiv, 1) := by decide +kernel
theorem dX3_begin_61 : decode cX3_begin 61 = .ok (.bipush 10, 2) := by decide +kernel
theorem dX3_begin_63 : decode cX3_begin 63 = .ok (.irem, 1) := by decide +kernel
theorem dX3_begin_64 : decode cX3_begin 64 = .ok (.iload 5, 2) := by decide +kernel
theorem dX3_begin_66 : decode cX3_begin 66 = .ok (.iconst 0, 1) := by decide +kernel
theorem dX3_begin_67 : decode cX3_begin 67 = .ok (.iload 5, 2) := by decide +kernel
theorem dX3_begin_69 : decode cX3_begin 69 = .ok (.iload_n 3, 1) := by decide +kernel
theorem dX3_begin_70 : decode cX3_begin 70 = .ok (.imul, 1) := by decide +kernel
theorem dX3_begin_71 : decode cX3_begin 71 = .ok (.bipush 100, 2) := by decide +kernel
theorem dX3_begin_73 : decode cX3_begin 73 = .ok (.invokevirtual 68, 3) := by decide +kernel
theorem dX3_begin_76 : decode cX3_begin 76 = .ok (.iload 4, 2) := by decide +kernel
theorem dX3_begin_78 : decode cX3_begin 78 = .ok (.bipush 10, 2) := by decide +kernel
theorem dX3_begin_80 : decode cX3_begin 80 = .ok (.idiv, 1) := by decide +kernel
theorem dX3_begin_81 : decode cX3_begin 81 = .ok (.istore 4, 2) := by decide +kernel
theorem dX3_begin_83 : decode cX3_begin 83 = .ok (.iinc 5 1, 3) := by decide +kernel
theorem dX3_begin_86 : decode cX3_begin 86 = .ok (.goto (-41), 3) := by decide +kernel
theorem dX3_begin_89 : decode cX3_begin 89 = .ok (.return_, 1) := by decide +kernel
set_option maxRecDepth 20000 in
theorem ggX3_startRun_X1_pack : GoodIn wsX3_startRun wsX1_pack := goodIn_r _ [9] (by decide +kernel) (by decide +kernel)
set_option maxRecDepth 20000 in
theorem gX3_startRun_X1_pack : GoodIn wsX3_startRun (va_wsS RX3 72 yX1_pack wsX1_pack) := goodIn_app (goodIn_of _ (by decide +kernel)) ggX3_startRun_X1_pack
set_option maxRecDepth 20000 in
theorem ggX3_startRun_X1_put : GoodIn wsX3_startRun wsX1_put := goodIn_r _ [13, 14, 15, 23, 24] (by decide +kernel) (by decide +kernel)
set_option maxRecDepth 20000 in
theorem gX3_startRun_X1_put : GoodIn wsX3_startRun (wsV RX3 76 RX1 yX1_put wsX1_put) := goodIn_app (goodIn_of _ (by decide +kernel)) ggX3_startRun_X1_put
theorem dX3_startRun_0 : decode cX3_startRun 0 = .ok (.aload_n 0, 1) := by decide +kernel
theorem dX3_startRun_1 : decode cX3_startRun 1 = .ok (.getfield 33, 3) := by decide +kernel
theorem dX3_startRun_4 : decode cX3_startRun 4 = .ok (.bipush 17, 2) := by decide +kernel
theorem dX3_startRun_6 : decode cX3_startRun 6 = .ok (.if_icmp .lt 4, 3) := by decide +kernel
theorem dX3_startRun_9 : decode cX3_startRun 9 = .ok (.return_, 1) := by decide +kernel
theorem dX3_startRun_10 : decode cX3_startRun 10 = .ok (.aload_n 0, 1) := by decide +kernel
theorem dX3_startRun_11 : decode cX3_startRun 11 = .ok (.getfield 22, 3) := by decide +kernel
theorem dX3_startRun_14 : decode cX3_startRun 14 = .ok (.aload_n 0, 1) := by decide +kernel
theorem dX3_startRun_15 : decode cX3_startRun 15 = .ok (.getfield 33, 3) := by decide +kernel
theorem dX3_startRun_18 : decode cX3_startRun 18 = .ok (.iload_n 1, 1) := by decide +kernel
theorem dX3_startRun_19 : decode cX3_startRun 19 = .ok (.iastore, 1) := by decide +kernel
theorem dX3_startRun_20 : decode cX3_startRun 20 = .ok (.aload_n 0, 1) := by decide +kernel
theorem dX3_startRun_21 : decode cX3_startRun 21 = .ok (.getfield 26, 3) := by decide +kernel
theorem dX3_startRun_24 : decode cX3_startRun 24 = .ok (.aload_n 0, 1) := by decide +kernel
theorem dX3_startRun_25 : decode cX3_startRun 25 = .ok (.getfield 33, 3) := by decide +kernel
theorem dX3_startRun_28 : decode cX3_startRun 28 = .ok (.iload_n 2, 1) := by decide +kernel
theorem dX3_startRun_29 : decode cX3_startRun 29 = .ok (.iastore, 1) := by decide +kernel
theorem dX3_startRun_30 : decode cX3_startRun 30 = .ok (.aload_n 0, 1) := by decide +kernel
theorem dX3_startRun_31 : decode cX3_startRun 31 = .ok (.getfield 29, 3) := by decide +kernel
theorem dX3_startRun_34 : decode cX3_startRun 34 = .ok (.aload_n 0, 1) := by decide +kernel
theorem dX3_startRun_35 : decode cX3_startRun 35 = .ok (.getfield 33, 3) := by decide +kernel
theorem dX3_startRun_38 : decode cX3_startRun 38 = .ok (.lconst 0, 1) := by decide +kernel
theorem dX3_startRun_39 : decode cX3_startRun 39 = .ok (.lastore, 1) := by decide +kernel
theorem dX3_startRun_40 : decode cX3_startRun 40 = .ok (.aload_n 0, 1) := by decide +kernel
theorem dX3_startRun_41 : decode cX3_startRun 41 = .ok (.getfield 18, 3) := by decide +kernel
theorem dX3_startRun_44 : decode cX3_startRun 44 = .ok (.iload 4, 2) := by decide +kernel
theorem dX3_startRun_46 : decode cX3_startRun 46 = .ok (.iload_n 3, 1) := by decide +kernel
theorem dX3_startRun_47 : decode cX3_startRun 47 = .ok (.aload_n 0, 1) := by decide +kernel
theorem dX3_startRun_48 : decode cX3_startRun 48 = .ok (.getfield 33, 3) := by decide +kernel
theorem dX3_startRun_51 : decode cX3_startRun 51 = .ok (.iconst (-1), 1) := by decide +kernel
theorem dX3_startRun_52 : decode cX3_startRun 52 = .ok (.iload 5, 2) := by decide +kernel
theorem dX3_startRun_54 : decode cX3_startRun 54 = .ok (.invokestatic 72, 3) := by decide +kernel
theorem dX3_startRun_57 : decode cX3_startRun 57 = .ok (.invokevirtual 76, 3) := by decide +kernel
theorem dX3_startRun_60 : decode cX3_startRun 60 = .ok (.aload_n 0, 1) := by decide +kernel
theorem dX3_startRun_61 : decode cX3_startRun 61 = .ok (.dup, 1) := by decide +kernel
theorem dX3_startRun_62 : decode cX3_startRun 62 = .ok (.getfield 33, 3) := by decide +kernel
theorem dX3_startRun_65 : decode cX3_startRun 65 = .ok (.iconst 1, 1) := by decide +kernel
theorem dX3_startRun_66 : decode cX3_startRun 66 = .ok (.iadd, 1) := by decide +kernel
theorem dX3_startRun_67 : decode cX3_startRun 67 = .ok (.putfield 33, 3) := by decide +kernel
theorem dX3_startRun_70 : decode cX3_startRun 70 = .ok (.return_, 1) := by decide +kernel
set_option maxRecDepth 20000 in
theorem ggX3_come_X1_timeOf : GoodIn wsX3_come wsX1_timeOf := goodIn_r _ [8] (by decide +kernel) (by decide +kernel)
set_option maxRecDepth 20000 in
theorem gX3_come_X1_timeOf : GoodIn wsX3_come (va_wsS RX3 80 yX1_timeOf wsX1_timeOf) := goodIn_app (goodIn_of _ (by decide +kernel)) ggX3_come_X1_timeOf
set_option maxRecDepth 20000 in
theorem ggX3_come_X1_chamberOf : GoodIn wsX3_come wsX1_chamberOf := goodIn_r _ [11] (by decide +kernel) (by decide +kernel)
set_option maxRecDepth 20000 in
theorem gX3_come_X1_chamberOf : GoodIn wsX3_come (va_wsS RX3 83 yX1_chamberOf wsX1_chamberOf) := goodIn_app (goodIn_of _ (by decide +kernel)) ggX3_come_X1_chamberOf
set_option maxRecDepth 20000 in
theorem ggX3_come_X1_runOf : GoodIn wsX3_come wsX1_runOf := goodIn_r _ [14] (by decide +kernel) (by decide +kernel)
set_option maxRecDepth 20000 in
theorem gX3_come_X1_runOf : GoodIn wsX3_come (va_wsS RX3 86 yX1_runOf wsX1_runOf) := goodIn_app (goodIn_of _ (by decide +kernel)) ggX3_come_X1_runOf
set_option maxRecDepth 20000 in
theorem ggX3_come_X1_passageOf : GoodIn wsX3_come wsX1_passageOf := goodIn_r _ [17] (by decide +kernel) (by decide +kernel)
set_option maxRecDepth 20000 in
theorem gX3_come_X1_passageOf : GoodIn wsX3_come (va_wsS RX3 89 yX1_passageOf wsX1_passageOf) := goodIn_app (goodIn_of _ (by decide +kernel)) ggX3_come_X1_passageOf
set_option maxRecDepth 20000 in
theorem ggX3_come_X1_strengthOf : GoodIn wsX3_come wsX1_strengthOf := goodIn_r _ [20] (by decide +kernel) (by decide +kernel)
set_option maxRecDepth 20000 in
theorem gX3_come_X1_strengthOf : GoodIn wsX3_come (va_wsS RX3 92 yX1_strengthOf wsX1_strengthOf) := goodIn_app (goodIn_of _ (by decide +kernel)) ggX3_come_X1_strengthOf
set_option maxRecDepth 20000 in
theorem ggX3_come_X0_hasChamber : GoodIn wsX3_come wsX0_hasChamber := goodIn_r _ [25, 26, 27, 28, 29, 109, 110, 111, 112, 113, 114, 115, 116, 117, 118, 119, 120, 121, 122, 123] (by decide +kernel) (by decide +kernel)
set_option maxRecDepth 20000 in
theorem gX3_come_X0_hasChamber : GoodIn wsX3_come (wsV RX3 95 RX0 yX0_hasChamber wsX0_hasChamber) := goodIn_app (goodIn_of _ (by decide +kernel)) ggX3_come_X0_hasChamber
set_option maxRecDepth 20000 in
theorem ggX3_come_X2_hear : GoodIn wsX3_come wsX2_hear := goodIn_r _ [34, 35, 36, 37, 38, 39, 40, 33, 41, 42, 43, 44, 45, 27, 28, 29, 124, 125, 126, 127, 128, 129, 130, 131] (by decide +kernel) (by decide +kernel)
set_option maxRecDepth 20000 in
theorem gX3_come_X2_hear : GoodIn wsX3_come (wsV RX3 104 RX2 yX2_hear wsX2_hear) := goodIn_app (goodIn_of _ (by decide +kernel)) ggX3_come_X2_hear
set_option maxRecDepth 20000 in
theorem ggX3_come_X0_drowns : GoodIn wsX3_come wsX0_drowns := goodIn_r _ [49, 50, 109, 110, 111, 112, 113, 114, 115, 116, 117, 118, 119, 120, 121, 122, 123] (by decide +kernel) (by decide +kernel)
set_option maxRecDepth 20000 in
theorem gX3_come_X0_drowns : GoodIn wsX3_come (wsV RX3 108 RX0 yX0_drowns wsX0_drowns) := goodIn_app (goodIn_of _ (by decide +kernel)) ggX3_come_X0_drowns
set_option maxRecDepth 20000 in
theorem ggX3_come_X3_setOffClapper : GoodIn wsX3_come wsX3_setOffClapper := goodIn_r _ [55, 2, 4, 56, 3, 57, 58, 59, 54, 60, 1, 61, 62, 63, 64, 7, 65, 66, 67, 68, 69, 70, 71, 102, 103, 104, 105, 106, 107, 108, 109, 110, 111, 112, 113, 114, 115, 116, 117, 118, 119, 120, 121, 122, 123, 132, 133] (by decide +kernel) (by decide +kernel)
set_option maxRecDepth 20000 in
theorem gX3_come_X3_setOffClapper : GoodIn wsX3_come (wsV RX3 112 RX3 yX3_setOffClapper wsX3_setOffClapper) := goodIn_app (goodIn_of _ (by decide +kernel)) ggX3_come_X3_setOffClapper
set_option maxRecDepth 20000 in
theorem ggX3_come_X3_goOn : GoodIn wsX3_come wsX3_goOn := goodIn_r _ [75, 2, 76, 77, 78, 24, 79, 80, 81, 82, 83, 84, 85, 86, 54, 87, 61, 62, 88, 89, 90, 91, 92, 93, 94, 95, 96, 63, 64, 7, 65, 66, 67, 68, 69, 70, 71, 102, 103, 104, 105, 106, 107, 108, 109, 110, 111, 112, 113, 114, 115, 116, 117, 118, 119, 120, 121, 122, 123, 132, 133] (by decide +kernel) (by decide +kernel)
set_option maxRecDepth 20000 in
theorem gX3_come_X3_goOn : GoodIn wsX3_come (wsV RX3 115 RX3 yX3_goOn wsX3_goOn) := goodIn_app (goodIn_of _ (by decide +kernel)) ggX3_come_X3_goOn
set_option maxRecDepth 20000 in
theorem ggX3_come_X0_strengthFromWall : GoodIn wsX3_come wsX0_strengthFromWall := goodIn_r _ [100, 101, 109, 110, 111, 112, 113, 114, 115, 116, 117, 118, 119, 120, 121, 122, 123] (by decide +kernel) (by decide +kernel)
set_option maxRecDepth 20000 in
theorem gX3_come_X0_strengthFromWall : GoodIn wsX3_come (wsV RX3 118 RX0 yX0_strengthFromWall wsX0_strengthFromWall) := goodIn_app (goodIn_of _ (by decide +kernel)) ggX3_come_X0_strengthFromWall
set_option maxRecDepth 20000 in
theorem ggX3_come_X3_goInto : GoodIn wsX3_come wsX3_goInto := goodIn_r _ [87, 2, 61, 62, 88, 89, 90, 24, 91, 81, 83, 92, 93, 94, 95, 96, 63, 64, 7, 65, 66, 67, 68, 69, 70, 71, 102, 103, 104, 105, 106, 107, 108, 109, 110, 111, 112, 113, 114, 115, 116, 117, 118, 119, 120, 121, 122, 123, 132, 133] (by decide +kernel) (by decide +kernel)
set_option maxRecDepth 20000 in
theorem gX3_come_X3_goInto : GoodIn wsX3_come (wsV RX3 122 RX3 yX3_goInto wsX3_goInto) := goodIn_app (goodIn_of _ (by decide +kernel)) ggX3_come_X3_goInto
theorem dX3_come_0 : decode cX3_come 0 = .ok (.iload_n 1, 1) := by decide +kernel
theorem dX3_come_1 : decode cX3_come 1 = .ok (.invokestatic 80, 3) := by decide +kernel
theorem dX3_come_4 : decode cX3_come 4 = .ok (.istore_n 3, 1) := by decide +kernel
theorem dX3_come_5 : decode cX3_come 5 = .ok (.iload_n 1, 1) := by decide +kernel
theorem dX3_come_6 : decode cX3_come 6 = .ok (.invokestatic 83, 3) := by decide +kernel
theorem dX3_come_9 : decode cX3_come 9 = .ok (.istore 4, 2) := by decide +kernel
theorem dX3_come_11 : decode cX3_come 11 = .ok (.iload_n 1, 1) := by decide +kernel
theorem dX3_come_12 : decode cX3_come 12 = .ok (.invokestatic 86, 3) := by decide +kernel
theorem dX3_come_15 : decode cX3_come 15 = .ok (.istore 5, 2) := by decide +kernel
theorem dX3_come_17 : decode cX3_come 17 = .ok (.iload_n 1, 1) := by decide +kernel
theorem dX3_come_18 : decode cX3_come 18 = .ok (.invokestatic 89, 3) := by decide +kernel
theorem dX3_come_21 : decode cX3_come 21 = .ok (.istore 6, 2) := by decide +kernel
theorem dX3_come_23 : decode cX3_come 23 = .ok (.iload_n 1, 1) := by decide +kernel
theorem dX3_come_24 : decode cX3_come 24 = .ok (.invokestatic 92, 3) := by decide +kernel
theorem dX3_come_27 : decode cX3_come 27 = .ok (.istore 7, 2) := by decide +kernel
theorem dX3_come_29 : decode cX3_come 29 = .ok (.iload 5, 2) := by decide +kernel
theorem dX3_come_31 : decode cX3_come 31 = .ok (.aload_n 0, 1) := by decide +kernel
theorem dX3_come_32 : decode cX3_come 32 = .ok (.getfield 33, 3) := by decide +kernel
theorem dX3_come_35 : decode cX3_come 35 = .ok (.if_icmp .ge 27, 3) := by decide +kernel
theorem dX3_come_38 : decode cX3_come 38 = .ok (.aload_n 0, 1) := by decide +kernel
theorem dX3_come_39 : decode cX3_come 39 = .ok (.getfield 9, 3) := by decide +kernel
theorem dX3_come_42 : decode cX3_come 42 = .ok (.iload 4, 2) := by decide +kernel
theorem dX3_come_44 : decode cX3_come 44 = .ok (.invokevirtual 95, 3) := by decide +kernel
theorem dX3_come_47 : decode cX3_come 47 = .ok (.ifCond .eq 15, 3) := by decide +kernel
theorem dX3_come_50 : decode cX3_come 50 = .ok (.iload 6, 2) := by decide +kernel
theorem dX3_come_52 : decode cX3_come 52 = .ok (.aload_n 0, 1) := by decide +kernel
theorem dX3_come_53 : decode cX3_come 53 = .ok (.getfield 9, 3) := by decide +kernel
theorem dX3_come_56 : decode cX3_come 56 = .ok (.getfield 101, 3) := by decide +kernel
theorem dX3_come_59 : decode cX3_come 59 = .ok (.if_icmp .lt 4, 3) := by decide +kernel
theorem dX3_come_62 : decode cX3_come 62 = .ok (.return_, 1) := by decide +kernel
theorem dX3_come_63 : decode cX3_come 63 = .ok (.iload 4, 2) := by decide +kernel
theorem dX3_come_65 : decode cX3_come 65 = .ok (.ifCond .ne 29, 3) := by decide +kernel
theorem dX3_come_68 : decode cX3_come 68 = .ok (.iload 6, 2) := by decide +kernel
theorem dX3_come_70 : decode cX3_come 70 = .ok (.ifCond .lt 24, 3) := by decide +kernel
theorem dX3_come_73 : decode cX3_come 73 = .ok (.aload_n 2, 1) := by decide +kernel
theorem dX3_come_74 : decode cX3_come 74 = .ok (.iload_n 3, 1) := by decide +kernel
theorem dX3_come_75 : decode cX3_come 75 = .ok (.aload_n 0, 1) := by decide +kernel
theorem dX3_come_76 : decode cX3_come 76 = .ok (.getfield 26, 3) := by decide +kernel
theorem dX3_come_79 : decode cX3_come 79 = .ok (.iload 5, 2) := by decide +kernel
theorem dX3_come_81 : decode cX3_come 81 = .ok (.iaload, 1) := by decide +kernel
theorem dX3_come_82 : decode cX3_come 82 = .ok (.aload_n 0, 1) := by decide +kernel
theorem dX3_come_83 : decode cX3_come 83 = .ok (.getfield 22, 3) := by decide +kernel
theorem dX3_come_86 : decode cX3_come 86 = .ok (.iload 5, 2) := by decide +kernel
theorem dX3_come_88 : decode cX3_come 88 = .ok (.iaload, 1) := by decide +kernel
theorem dX3_come_89 : decode cX3_come 89 = .ok (.iload 7, 2) := by decide +kernel
theorem dX3_come_91 : decode cX3_come 91 = .ok (.invokevirtual 104, 3) := by decide +kernel
theorem dX3_come_94 : decode cX3_come 94 = .ok (.aload_n 0, 1) := by decide +kernel
theorem dX3_come_95 : decode cX3_come 95 = .ok (.getfield 9, 3) := by decide +kernel
theorem dX3_come_98 : decode cX3_come 98 = .ok (.iload 4, 2) := by decide +kernel
theorem dX3_come_100 : decode cX3_come 100 = .ok (.iload 7, 2) := by decide +kernel
theorem dX3_come_102 : decode cX3_come 102 = .ok (.invokevirtual 108, 3) := by decide +kernel
theorem dX3_come_105 : decode cX3_come 105 = .ok (.ifCond .eq 4, 3) := by decide +kernel
theorem dX3_come_108 : decode cX3_come 108 = .ok (.return_, 1) := by decide +kernel
theorem dX3_come_109 : decode cX3_come 109 = .ok (.aload_n 0, 1) := by decide +kernel
theorem dX3_come_110 : decode cX3_come 110 = .ok (.iload 4, 2) := by decide +kernel
theorem dX3_come_112 : decode cX3_come 112 = .ok (.iload 5, 2) := by decide +kernel
theorem dX3_come_114 : decode cX3_come 114 = .ok (.iload_n 3, 1) := by decide +kernel
theorem dX3_come_115 : decode cX3_come 115 = .ok (.invokevirtual 112, 3) := by decide +kernel
theorem dX3_come_118 : decode cX3_come 118 = .ok (.aload_n 0, 1) := by decide +kernel
theorem dX3_come_119 : decode cX3_come 119 = .ok (.iload 4, 2) := by decide +kernel
theorem dX3_come_121 : decode cX3_come 121 = .ok (.iload 5, 2) := by decide +kernel
theorem dX3_come_123 : decode cX3_come 123 = .ok (.iload 6, 2) := by decide +kernel
theorem dX3_come_125 : decode cX3_come 125 = .ok (.iload_n 3, 1) := by decide +kernel
theorem dX3_come_126 : decode cX3_come 126 = .ok (.iload 7, 2) := by decide +kernel
theorem dX3_come_128 : decode cX3_come 128 = .ok (.invokevirtual 115, 3) := by decide +kernel
theorem dX3_come_131 : decode cX3_come 131 = .ok (.iload 4, 2) := by decide +kernel
theorem dX3_come_133 : decode cX3_come 133 = .ok (.ifCond .eq 30, 3) := by decide +kernel
theorem dX3_come_136 : decode cX3_come 136 = .ok (.iload 6, 2) := by decide +kernel
theorem dX3_come_138 : decode cX3_come 138 = .ok (.ifCond .lt 25, 3) := by decide +kernel
theorem dX3_come_141 : decode cX3_come 141 = .ok (.aload_n 0, 1) := by decide +kernel
theorem dX3_come_142 : decode cX3_come 142 = .ok (.iload 6, 2) := by decide +kernel
theorem dX3_come_144 : decode cX3_come 144 = .ok (.iload 4, 2) := by decide +kernel
theorem dX3_come_146 : decode cX3_come 146 = .ok (.iload 5, 2) := by decide +kernel
theorem dX3_come_148 : decode cX3_come 148 = .ok (.iload_n 3, 1) := by decide +kernel
theorem dX3_come_149 : decode cX3_come 149 = .ok (.aload_n 0, 1) := by decide +kernel
theorem dX3_come_150 : decode cX3_come 150 = .ok (.getfield 9, 3) := by decide +kernel
theorem dX3_come_153 : decode cX3_come 153 = .ok (.iload 4, 2) := by decide +kernel
theorem dX3_come_155 : decode cX3_come 155 = .ok (.iload 7, 2) := by decide +kernel
theorem dX3_come_157 : decode cX3_come 157 = .ok (.invokevirtual 118, 3) := by decide +kernel
theorem dX3_come_160 : decode cX3_come 160 = .ok (.invokevirtual 122, 3) := by decide +kernel
theorem dX3_come_163 : decode cX3_come 163 = .ok (.return_, 1) := by decide +kernel
set_option maxRecDepth 20000 in
theorem ggX3_setOffClapper_X3_startRun : GoodIn wsX3_setOffClapper wsX3_startRun := goodIn_r _ [9, 10, 2, 4, 11, 12, 13, 14, 15, 16, 17, 18, 19, 20, 21, 22, 23, 24, 25, 26, 27, 28, 29, 45, 46] (by decide +kernel) (by decide +kernel)
set_option maxRecDepth 20000 in
theorem gX3_setOffClapper_X3_startRun : GoodIn wsX3_setOffClapper (wsV RX3 68 RX3 yX3_startRun wsX3_startRun) := goodIn_app (goodIn_of _ (by decide +kernel)) ggX3_setOffClapper_X3_startRun
theorem dX3_setOffClapper_0 : decode cX3_setOffClapper 0 = .ok (.iconst 1, 1) := by decide +kernel
theorem dX3_setOffClapper_1 : decode cX3_setOffClapper 1 = .ok (.iload_n 1, 1) := by decide +kernel
theorem dX3_setOffClapper_2 : decode cX3_setOffClapper 2 = .ok (.ishl, 1) := by decide +kernel
theorem dX3_setOffClapper_3 : decode cX3_setOffClapper 3 = .ok (.istore 4, 2) := by decide +kernel
theorem dX3_setOffClapper_5 : decode cX3_setOffClapper 5 = .ok (.aload_n 0, 1) := by decide +kernel
theorem dX3_setOffClapper_6 : decode cX3_setOffClapper 6 = .ok (.getfield 9, 3) := by decide +kernel
theorem dX3_setOffClapper_9 : decode cX3_setOffClapper 9 = .ok (.getfield 125, 3) := by decide +kernel
theorem dX3_setOffClapper_12 : decode cX3_setOffClapper 12 = .ok (.iload_n 1, 1) := by decide +kernel
theorem dX3_setOffClapper_13 : decode cX3_setOffClapper 13 = .ok (.iaload, 1) := by decide +kernel
theorem dX3_setOffClapper_14 : decode cX3_setOffClapper 14 = .ok (.aload_n 0, 1) := by decide +kernel
theorem dX3_setOffClapper_15 : decode cX3_setOffClapper 15 = .ok (.getfield 22, 3) := by decide +kernel
theorem dX3_setOffClapper_18 : decode cX3_setOffClapper 18 = .ok (.iload_n 2, 1) := by decide +kernel
theorem dX3_setOffClapper_19 : decode cX3_setOffClapper 19 = .ok (.iaload, 1) := by decide +kernel
theorem dX3_setOffClapper_20 : decode cX3_setOffClapper 20 = .ok (.if_icmp .ne 13, 3) := by decide +kernel
theorem dX3_setOffClapper_23 : decode cX3_setOffClapper 23 = .ok (.aload_n 0, 1) := by decide +kernel
theorem dX3_setOffClapper_24 : decode cX3_setOffClapper 24 = .ok (.getfield 37, 3) := by decide +kernel
theorem dX3_setOffClapper_27 : decode cX3_setOffClapper 27 = .ok (.iload 4, 2) := by decide +kernel
theorem dX3_setOffClapper_29 : decode cX3_setOffClapper 29 = .ok (.iand, 1) := by decide +kernel
theorem dX3_setOffClapper_30 : decode cX3_setOffClapper 30 = .ok (.ifCond .eq 4, 3) := by decide +kernel
theorem dX3_setOffClapper_33 : decode cX3_setOffClapper 33 = .ok (.return_, 1) := by decide +kernel
theorem dX3_setOffClapper_34 : decode cX3_setOffClapper 34 = .ok (.iload_n 3, 1) := by decide +kernel
theorem dX3_setOffClapper_35 : decode cX3_setOffClapper 35 = .ok (.aload_n 0, 1) := by decide +kernel
theorem dX3_setOffClapper_36 : decode cX3_setOffClapper 36 = .ok (.getfield 9, 3) := by decide +kernel
theorem dX3_setOffClapper_39 : decode cX3_setOffClapper 39 = .ok (.getfield 126, 3) := by decide +kernel
theorem dX3_setOffClapper_42 : decode cX3_setOffClapper 42 = .ok (.iload_n 1, 1) := by decide +kernel
theorem dX3_setOffClapper_43 : decode cX3_setOffClapper 43 = .ok (.iaload, 1) := by decide +kernel
theorem dX3_setOffClapper_44 : decode cX3_setOffClapper 44 = .ok (.iadd, 1) := by decide +kernel
theorem dX3_setOffClapper_45 : decode cX3_setOffClapper 45 = .ok (.istore 5, 2) := by decide +kernel
theorem dX3_setOffClapper_47 : decode cX3_setOffClapper 47 = .ok (.iload 5, 2) := by decide +kernel
theorem dX3_setOffClapper_49 : decode cX3_setOffClapper 49 = .ok (.sipush 200, 3) := by decide +kernel
theorem dX3_setOffClapper_52 : decode cX3_setOffClapper 52 = .ok (.if_icmp .le 4, 3) := by decide +kernel
theorem dX3_setOffClapper_55 : decode cX3_setOffClapper 55 = .ok (.return_, 1) := by decide +kernel
theorem dX3_setOffClapper_56 : decode cX3_setOffClapper 56 = .ok (.aload_n 0, 1) := by decide +kernel
theorem dX3_setOffClapper_57 : decode cX3_setOffClapper 57 = .ok (.dup, 1) := by decide +kernel
theorem dX3_setOffClapper_58 : decode cX3_setOffClapper 58 = .ok (.getfield 37, 3) := by decide +kernel
theorem dX3_setOffClapper_61 : decode cX3_setOffClapper 61 = .ok (.iload 4, 2) := by decide +kernel
theorem dX3_setOffClapper_63 : decode cX3_setOffClapper 63 = .ok (.ior, 1) := by decide +kernel
theorem dX3_setOffClapper_64 : decode cX3_setOffClapper 64 = .ok (.putfield 37, 3) := by decide +kernel
theorem dX3_setOffClapper_67 : decode cX3_setOffClapper 67 = .ok (.aload_n 0, 1) := by decide +kernel
theorem dX3_setOffClapper_68 : decode cX3_setOffClapper 68 = .ok (.aload_n 0, 1) := by decide +kernel
theorem dX3_setOffClapper_69 : decode cX3_setOffClapper 69 = .ok (.getfield 22, 3) := by decide +kernel
theorem dX3_setOffClapper_72 : decode cX3_setOffClapper 72 = .ok (.iload_n 2, 1) := by decide +kernel
theorem dX3_setOffClapper_73 : decode cX3_setOffClapper 73 = .ok (.iaload, 1) := by decide +kernel
theorem dX3_setOffClapper_74 : decode cX3_setOffClapper 74 = .ok (.aload_n 0, 1) := by decide +kernel
theorem dX3_setOffClapper_75 : decode cX3_setOffClapper 75 = .ok (.getfield 26, 3) := by decide +kernel
theorem dX3_setOffClapper_78 : decode cX3_setOffClapper 78 = .ok (.iload_n 2, 1) := by decide +kernel
theorem dX3_setOffClapper_79 : decode cX3_setOffClapper 79 = .ok (.iaload, 1) := by decide +kernel
theorem dX3_setOffClapper_80 : decode cX3_setOffClapper 80 = .ok (.iload_n 1, 1) := by decide +kernel
theorem dX3_setOffClapper_81 : decode cX3_setOffClapper 81 = .ok (.iload 5, 2) := by decide +kernel
theorem dX3_setOffClapper_83 : decode cX3_setOffClapper 83 = .ok (.bipush 60, 2) := by decide +kernel
theorem dX3_setOffClapper_85 : decode cX3_setOffClapper 85 = .ok (.invokevirtual 68, 3) := by decide +kernel
theorem dX3_setOffClapper_88 : decode cX3_setOffClapper 88 = .ok (.return_, 1) := by decide +kernel
set_option maxRecDepth 20000 in
theorem ggX3_goOn_X0_isOpen : GoodIn wsX3_goOn wsX0_isOpen := goodIn_r _ [6, 7, 8, 9, 10, 44, 45, 46, 47, 48, 49, 50, 51, 52, 53, 54, 55, 56, 57, 58] (by decide +kernel) (by decide +kernel)
set_option maxRecDepth 20000 in
theorem gX3_goOn_X0_isOpen : GoodIn wsX3_goOn (wsV RX3 136 RX0 yX0_isOpen wsX0_isOpen) := goodIn_app (goodIn_of _ (by decide +kernel)) ggX3_goOn_X0_isOpen
set_option maxRecDepth 20000 in
theorem ggX3_goOn_X3_goInto : GoodIn wsX3_goOn wsX3_goInto := goodIn_r _ [15, 1, 16, 17, 18, 19, 20, 5, 21, 8, 10, 22, 23, 24, 25, 26, 27, 28, 29, 30, 31, 32, 33, 34, 35, 36, 37, 38, 39, 40, 41, 42, 43, 44, 45, 46, 47, 48, 49, 50, 51, 52, 53, 54, 55, 56, 57, 58, 59, 60] (by decide +kernel) (by decide +kernel)
set_option maxRecDepth 20000 in
theorem gX3_goOn_X3_goInto : GoodIn wsX3_goOn (wsV RX3 122 RX3 yX3_goInto wsX3_goInto) := goodIn_app (goodIn_of _ (by decide +kernel)) ggX3_goOn_X3_goInto
theorem dX3_goOn_0 : decode cX3_goOn 0 = .ok (.iconst 0, 1) := by decide +kernel
theorem dX3_goOn_1 : decode cX3_goOn 1 = .ok (.istore 6, 2) := by decide +kernel
theorem dX3_goOn_3 : decode cX3_goOn 3 = .ok (.iload 6, 2) := by decide +kernel
theorem dX3_goOn_5 : decode cX3_goOn 5 = .ok (.aload_n 0, 1) := by decide +kernel
theorem dX3_goOn_6 : decode cX3_goOn 6 = .ok (.getfield 9, 3) := by decide +kernel
theorem dX3_goOn_9 : decode cX3_goOn 9 = .ok (.getfield 129, 3) := by decide +kernel
theorem dX3_goOn_12 : decode cX3_goOn 12 = .ok (.iload_n 1, 1) := by decide +kernel
theorem dX3_goOn_13 : decode cX3_goOn 13 = .ok (.iaload, 1) := by decide +kernel
theorem dX3_goOn_14 : decode cX3_goOn 14 = .ok (.if_icmp .ge 53, 3) := by decide +kernel
theorem dX3_goOn_17 : decode cX3_goOn 17 = .ok (.aload_n 0, 1) := by decide +kernel
theorem dX3_goOn_18 : decode cX3_goOn 18 = .ok (.getfield 9, 3) := by decide +kernel
theorem dX3_goOn_21 : decode cX3_goOn 21 = .ok (.getfield 132, 3) := by decide +kernel
theorem dX3_goOn_24 : decode cX3_goOn 24 = .ok (.iload_n 1, 1) := by decide +kernel
theorem dX3_goOn_25 : decode cX3_goOn 25 = .ok (.aaload, 1) := by decide +kernel
theorem dX3_goOn_26 : decode cX3_goOn 26 = .ok (.iload 6, 2) := by decide +kernel
theorem dX3_goOn_28 : decode cX3_goOn 28 = .ok (.iaload, 1) := by decide +kernel
theorem dX3_goOn_29 : decode cX3_goOn 29 = .ok (.istore 7, 2) := by decide +kernel
theorem dX3_goOn_31 : decode cX3_goOn 31 = .ok (.iload 7, 2) := by decide +kernel
theorem dX3_goOn_33 : decode cX3_goOn 33 = .ok (.iload_n 3, 1) := by decide +kernel
theorem dX3_goOn_34 : decode cX3_goOn 34 = .ok (.if_icmp .eq 27, 3) := by decide +kernel
theorem dX3_goOn_37 : decode cX3_goOn 37 = .ok (.aload_n 0, 1) := by decide +kernel
theorem dX3_goOn_38 : decode cX3_goOn 38 = .ok (.getfield 9, 3) := by decide +kernel
theorem dX3_goOn_41 : decode cX3_goOn 41 = .ok (.iload 7, 2) := by decide +kernel
theorem dX3_goOn_43 : decode cX3_goOn 43 = .ok (.invokevirtual 136, 3) := by decide +kernel
theorem dX3_goOn_46 : decode cX3_goOn 46 = .ok (.ifCond .eq 15, 3) := by decide +kernel
theorem dX3_goOn_49 : decode cX3_goOn 49 = .ok (.aload_n 0, 1) := by decide +kernel
theorem dX3_goOn_50 : decode cX3_goOn 50 = .ok (.iload 7, 2) := by decide +kernel
theorem dX3_goOn_52 : decode cX3_goOn 52 = .ok (.iload_n 1, 1) := by decide +kernel
theorem dX3_goOn_53 : decode cX3_goOn 53 = .ok (.iload_n 2, 1) := by decide +kernel
theorem dX3_goOn_54 : decode cX3_goOn 54 = .ok (.iload 4, 2) := by decide +kernel
theorem dX3_goOn_56 : decode cX3_goOn 56 = .ok (.iload 5, 2) := by decide +kernel
theorem dX3_goOn_58 : decode cX3_goOn 58 = .ok (.invokevirtual 122, 3) := by decide +kernel
theorem dX3_goOn_61 : decode cX3_goOn 61 = .ok (.iinc 6 1, 3) := by decide +kernel
theorem dX3_goOn_64 : decode cX3_goOn 64 = .ok (.goto (-61), 3) := by decide +kernel
theorem dX3_goOn_67 : decode cX3_goOn 67 = .ok (.return_, 1) := by decide +kernel
set_option maxRecDepth 20000 in
theorem ggX3_goInto_X0_otherEnd : GoodIn wsX3_goInto wsX0_otherEnd := goodIn_r _ [8, 9, 10, 33, 34, 35, 36, 37, 38, 39, 40, 41, 42, 43, 44, 45, 46, 47] (by decide +kernel) (by decide +kernel)
set_option maxRecDepth 20000 in
theorem gX3_goInto_X0_otherEnd : GoodIn wsX3_goInto (wsV RX3 145 RX0 yX0_otherEnd wsX0_otherEnd) := goodIn_app (goodIn_of _ (by decide +kernel)) ggX3_goInto_X0_otherEnd
set_option maxRecDepth 20000 in
theorem ggX3_goInto_X0_strengthBehind : GoodIn wsX3_goInto wsX0_strengthBehind := goodIn_r _ [14, 15, 33, 34, 35, 36, 37, 38, 39, 40, 41, 42, 43, 44, 45, 46, 47] (by decide +kernel) (by decide +kernel)
set_option maxRecDepth 20000 in
theorem gX3_goInto_X0_strengthBehind : GoodIn wsX3_goInto (wsV RX3 148 RX0 yX0_strengthBehind wsX0_strengthBehind) := goodIn_app (goodIn_of _ (by decide +kernel)) ggX3_goInto_X0_strengthBehind
set_option maxRecDepth 20000 in
theorem ggX3_goInto_X1_pack : GoodIn wsX3_goInto wsX1_pack := goodIn_r _ [19] (by decide +kernel) (by decide +kernel)
set_option maxRecDepth 20000 in
theorem gX3_goInto_X1_pack : GoodIn wsX3_goInto (va_wsS RX3 72 yX1_pack wsX1_pack) := goodIn_app (goodIn_of _ (by decide +kernel)) ggX3_goInto_X1_pack
set_option maxRecDepth 20000 in
theorem ggX3_goInto_X1_put : GoodIn wsX3_goInto wsX1_put := goodIn_r _ [23, 24, 25, 48, 49] (by decide +kernel) (by decide +kernel)
set_option maxRecDepth 20000 in
theorem gX3_goInto_X1_put : GoodIn wsX3_goInto (wsV RX3 76 RX1 yX1_put wsX1_put) := goodIn_app (goodIn_of _ (by decide +kernel)) ggX3_goInto_X1_put
theorem dX3_goInto_0 : decode cX3_goInto 0 = .ok (.iload 4, 2) := by decide +kernel
theorem dX3_goInto_2 : decode cX3_goInto 2 = .ok (.aload_n 0, 1) := by decide +kernel
theorem dX3_goInto_3 : decode cX3_goInto 3 = .ok (.getfield 9, 3) := by decide +kernel
theorem dX3_goInto_6 : decode cX3_goInto 6 = .ok (.getfield 139, 3) := by decide +kernel
theorem dX3_goInto_9 : decode cX3_goInto 9 = .ok (.iload_n 1, 1) := by decide +kernel
theorem dX3_goInto_10 : decode cX3_goInto 10 = .ok (.iaload, 1) := by decide +kernel
theorem dX3_goInto_11 : decode cX3_goInto 11 = .ok (.iadd, 1) := by decide +kernel
theorem dX3_goInto_12 : decode cX3_goInto 12 = .ok (.istore 6, 2) := by decide +kernel
theorem dX3_goInto_14 : decode cX3_goInto 14 = .ok (.lconst 1, 1) := by decide +kernel
theorem dX3_goInto_15 : decode cX3_goInto 15 = .ok (.iconst 2, 1) := by decide +kernel
theorem dX3_goInto_16 : decode cX3_goInto 16 = .ok (.iload_n 1, 1) := by decide +kernel
theorem dX3_goInto_17 : decode cX3_goInto 17 = .ok (.imul, 1) := by decide +kernel
theorem dX3_goInto_18 : decode cX3_goInto 18 = .ok (.aload_n 0, 1) := by decide +kernel
theorem dX3_goInto_19 : decode cX3_goInto 19 = .ok (.getfield 9, 3) := by decide +kernel
theorem dX3_goInto_22 : decode cX3_goInto 22 = .ok (.getfield 142, 3) := by decide +kernel
theorem dX3_goInto_25 : decode cX3_goInto 25 = .ok (.iload_n 1, 1) := by decide +kernel
theorem dX3_goInto_26 : decode cX3_goInto 26 = .ok (.iaload, 1) := by decide +kernel
theorem dX3_goInto_27 : decode cX3_goInto 27 = .ok (.iload_n 2, 1) := by decide +kernel
theorem dX3_goInto_28 : decode cX3_goInto 28 = .ok (.if_icmp .ne 7, 3) := by decide +kernel
theorem dX3_goInto_31 : decode cX3_goInto 31 = .ok (.iconst 0, 1) := by decide +kernel
theorem dX3_goInto_32 : decode cX3_goInto 32 = .ok (.goto 4, 3) := by decide +kernel
theorem dX3_goInto_35 : decode cX3_goInto 35 = .ok (.iconst 1, 1) := by decide +kernel
theorem dX3_goInto_36 : decode cX3_goInto 36 = .ok (.iadd, 1) := by decide +kernel
theorem dX3_goInto_37 : decode cX3_goInto 37 = .ok (.lshl, 1) := by decide +kernel
theorem dX3_goInto_38 : decode cX3_goInto 38 = .ok (.lstore 7, 2) := by decide +kernel
theorem dX3_goInto_40 : decode cX3_goInto 40 = .ok (.iload 6, 2) := by decide +kernel
theorem dX3_goInto_42 : decode cX3_goInto 42 = .ok (.sipush 200, 3) := by decide +kernel
theorem dX3_goInto_45 : decode cX3_goInto 45 = .ok (.if_icmp .gt 17, 3) := by decide +kernel
theorem dX3_goInto_48 : decode cX3_goInto 48 = .ok (.aload_n 0, 1) := by decide +kernel
theorem dX3_goInto_49 : decode cX3_goInto 49 = .ok (.getfield 29, 3) := by decide +kernel
theorem dX3_goInto_52 : decode cX3_goInto 52 = .ok (.iload_n 3, 1) := by decide +kernel
theorem dX3_goInto_53 : decode cX3_goInto 53 = .ok (.laload, 1) := by decide +kernel
theorem dX3_goInto_54 : decode cX3_goInto 54 = .ok (.lload 7, 2) := by decide +kernel
theorem dX3_goInto_56 : decode cX3_goInto 56 = .ok (.land, 1) := by decide +kernel
theorem dX3_goInto_57 : decode cX3_goInto 57 = .ok (.lconst 0, 1) := by decide +kernel
theorem dX3_goInto_58 : decode cX3_goInto 58 = .ok (.lcmp, 1) := by decide +kernel
theorem dX3_goInto_59 : decode cX3_goInto 59 = .ok (.ifCond .eq 4, 3) := by decide +kernel
theorem dX3_goInto_62 : decode cX3_goInto 62 = .ok (.return_, 1) := by decide +kernel
theorem dX3_goInto_63 : decode cX3_goInto 63 = .ok (.aload_n 0, 1) := by decide +kernel
theorem dX3_goInto_64 : decode cX3_goInto 64 = .ok (.getfield 29, 3) := by decide +kernel
theorem dX3_goInto_67 : decode cX3_goInto 67 = .ok (.iload_n 3, 1) := by decide +kernel
theorem dX3_goInto_68 : decode cX3_goInto 68 = .ok (.dup2, 1) := by decide +kernel
theorem dX3_goInto_69 : decode cX3_goInto 69 = .ok (.laload, 1) := by decide +kernel
theorem dX3_goInto_70 : decode cX3_goInto 70 = .ok (.lload 7, 2) := by decide +kernel
theorem dX3_goInto_72 : decode cX3_goInto 72 = .ok (.lor, 1) := by decide +kernel
theorem dX3_goInto_73 : decode cX3_goInto 73 = .ok (.lastore, 1) := by decide +kernel
theorem dX3_goInto_74 : decode cX3_goInto 74 = .ok (.aload_n 0, 1) := by decide +kernel
theorem dX3_goInto_75 : decode cX3_goInto 75 = .ok (.getfield 9, 3) := by decide +kernel
theorem dX3_goInto_78 : decode cX3_goInto 78 = .ok (.iload_n 1, 1) := by decide +kernel
theorem dX3_goInto_79 : decode cX3_goInto 79 = .ok (.iload_n 2, 1) := by decide +kernel
theorem dX3_goInto_80 : decode cX3_goInto 80 = .ok (.invokevirtual 145, 3) := by decide +kernel
theorem dX3_goInto_83 : decode cX3_goInto 83 = .ok (.istore 9, 2) := by decide +kernel
theorem dX3_goInto_85 : decode cX3_goInto 85 = .ok (.aload_n 0, 1) := by decide +kernel
theorem dX3_goInto_86 : decode cX3_goInto 86 = .ok (.getfield 18, 3) := by decide +kernel
theorem dX3_goInto_89 : decode cX3_goInto 89 = .ok (.iload 6, 2) := by decide +kernel
theorem dX3_goInto_91 : decode cX3_goInto 91 = .ok (.iload 9, 2) := by decide +kernel
theorem dX3_goInto_93 : decode cX3_goInto 93 = .ok (.iload_n 3, 1) := by decide +kernel
theorem dX3_goInto_94 : decode cX3_goInto 94 = .ok (.iload_n 1, 1) := by decide +kernel
theorem dX3_goInto_95 : decode cX3_goInto 95 = .ok (.aload_n 0, 1) := by decide +kernel
theorem dX3_goInto_96 : decode cX3_goInto 96 = .ok (.getfield 9, 3) := by decide +kernel
theorem dX3_goInto_99 : decode cX3_goInto 99 = .ok (.iload_n 1, 1) := by decide +kernel
theorem dX3_goInto_100 : decode cX3_goInto 100 = .ok (.iload 5, 2) := by decide +kernel
theorem dX3_goInto_102 : decode cX3_goInto 102 = .ok (.invokevirtual 148, 3) := by decide +kernel
theorem dX3_goInto_105 : decode cX3_goInto 105 = .ok (.invokestatic 72, 3) := by decide +kernel
theorem dX3_goInto_108 : decode cX3_goInto 108 = .ok (.invokevirtual 76, 3) := by decide +kernel
theorem dX3_goInto_111 : decode cX3_goInto 111 = .ok (.return_, 1) := by decide +kernel
set_option maxRecDepth 20000 in
theorem ggX4_init_X0_init : GoodIn wsX4_init wsX0_init := goodIn_r _ [22, 23, 2, 3, 24, 25, 26, 27, 28, 29, 30, 31, 32, 33, 34, 35, 36, 37, 38, 39, 40, 74, 75, 76, 77, 78, 79, 80, 81, 82, 83, 84, 85, 86, 87, 88] (by decide +kernel) (by decide +kernel)
set_option maxRecDepth 20000 in
theorem gX4_init_X0_init : GoodIn wsX4_init (wsX0_init) := ggX4_init_X0_init
set_option maxRecDepth 20000 in
theorem ggX4_init_X3_init : GoodIn wsX4_init wsX3_init := goodIn_r _ [43, 44, 2, 3, 45, 46, 47, 48, 49, 24, 50, 51, 52, 53, 54, 55, 56, 57, 58, 59, 60, 61, 96, 97, 98, 99, 100, 101, 102, 111, 112] (by decide +kernel) (by decide +kernel)
set_option maxRecDepth 20000 in
theorem gX4_init_X3_init : GoodIn wsX4_init (wsX3_init) := ggX4_init_X3_init
set_option maxRecDepth 20000 in
theorem ggX4_init_X2_init : GoodIn wsX4_init wsX2_init := goodIn_r _ [64, 65, 2, 3, 24, 66, 67, 68, 69, 70, 71, 72, 73, 103, 104, 105, 106, 107, 108, 109, 110] (by decide +kernel) (by decide +kernel)
set_option maxRecDepth 20000 in
theorem gX4_init_X2_init : GoodIn wsX4_init (wsX2_init) := ggX4_init_X2_init
theorem dX4_init_0 : decode cX4_init 0 = .ok (.aload_n 0, 1) := by decide +kernel
theorem dX4_init_1 : decode cX4_init 1 = .ok (.invokespecial 3, 3) := by decide +kernel
theorem dX4_init_4 : decode cX4_init 4 = .ok (.aload_n 0, 1) := by decide +kernel
theorem dX4_init_5 : decode cX4_init 5 = .ok (.new 9, 3) := by decide +kernel
theorem dX4_init_8 : decode cX4_init 8 = .ok (.dup, 1) := by decide +kernel
theorem dX4_init_9 : decode cX4_init 9 = .ok (.invokespecial 11, 3) := by decide +kernel
theorem dX4_init_12 : decode cX4_init 12 = .ok (.putfield 12, 3) := by decide +kernel
theorem dX4_init_15 : decode cX4_init 15 = .ok (.aload_n 0, 1) := by decide +kernel
theorem dX4_init_16 : decode cX4_init 16 = .ok (.new 16, 3) := by decide +kernel
theorem dX4_init_19 : decode cX4_init 19 = .ok (.dup, 1) := by decide +kernel
theorem dX4_init_20 : decode cX4_init 20 = .ok (.aload_n 0, 1) := by decide +kernel
theorem dX4_init_21 : decode cX4_init 21 = .ok (.getfield 12, 3) := by decide +kernel
theorem dX4_init_24 : decode cX4_init 24 = .ok (.invokespecial 18, 3) := by decide +kernel
theorem dX4_init_27 : decode cX4_init 27 = .ok (.putfield 21, 3) := by decide +kernel
theorem dX4_init_30 : decode cX4_init 30 = .ok (.aload_n 0, 1) := by decide +kernel
theorem dX4_init_31 : decode cX4_init 31 = .ok (.new 25, 3) := by decide +kernel
theorem dX4_init_34 : decode cX4_init 34 = .ok (.dup, 1) := by decide +kernel
theorem dX4_init_35 : decode cX4_init 35 = .ok (.invokespecial 27, 3) := by decide +kernel
theorem dX4_init_38 : decode cX4_init 38 = .ok (.putfield 28, 3) := by decide +kernel
theorem dX4_init_41 : decode cX4_init 41 = .ok (.aload_n 0, 1) := by decide +kernel
theorem dX4_init_42 : decode cX4_init 42 = .ok (.new 25, 3) := by decide +kernel
theorem dX4_init_45 : decode cX4_init 45 = .ok (.dup, 1) := by decide +kernel
theorem dX4_init_46 : decode cX4_init 46 = .ok (.invokespecial 27, 3) := by decide +kernel
theorem dX4_init_49 : decode cX4_init 49 = .ok (.putfield 32, 3) := by decide +kernel
theorem dX4_init_52 : decode cX4_init 52 = .ok (.aload_n 0, 1) := by decide +kernel
theorem dX4_init_53 : decode cX4_init 53 = .ok (.iconst 5, 1) := by decide +kernel
theorem dX4_init_54 : decode cX4_init 54 = .ok (.putfield 35, 3) := by decide +kernel
theorem dX4_init_57 : decode cX4_init 57 = .ok (.aload_n 0, 1) := by decide +kernel
theorem dX4_init_58 : decode cX4_init 58 = .ok (.iconst 0, 1) := by decide +kernel
theorem dX4_init_59 : decode cX4_init 59 = .ok (.putfield 39, 3) := by decide +kernel
theorem dX4_init_62 : decode cX4_init 62 = .ok (.aload_n 0, 1) := by decide +kernel
theorem dX4_init_63 : decode cX4_init 63 = .ok (.iconst 0, 1) := by decide +kernel
theorem dX4_init_64 : decode cX4_init 64 = .ok (.putfield 42, 3) := by decide +kernel
theorem dX4_init_67 : decode cX4_init 67 = .ok (.return_, 1) := by decide +kernel
set_option maxRecDepth 20000 in
theorem ggX4_addChamber_X4_isWithin : GoodIn wsX4_addChamber wsX4_isWithin := goodIn_r _ [7] (by decide +kernel) (by decide +kernel)
set_option maxRecDepth 20000 in
theorem gX4_addChamber_X4_isWithin : GoodIn wsX4_addChamber (va_wsS RX4 45 yX4_isWithin wsX4_isWithin) := goodIn_app (goodIn_of _ (by decide +kernel)) ggX4_addChamber_X4_isWithin
set_option maxRecDepth 20000 in
theorem ggX4_addChamber_X4_requireArgument : GoodIn wsX4_addChamber wsX4_requireArgument := goodIn_ca (goodIn_r _ [10, 11, 12] (by decide +kernel) (by decide +kernel)) (goodIn_sub (fun _ h => List.mem_cons_of_mem _ (List.mem_append_right _ h)) (by decide +kernel))
set_option maxRecDepth 20000 in
theorem gX4_addChamber_X4_requireArgument : GoodIn wsX4_addChamber (va_wsS RX4 49 yX4_requireArgument wsX4_requireArgument) := goodIn_app (goodIn_of _ (by decide +kernel)) ggX4_addChamber_X4_requireArgument
set_option maxRecDepth 20000 in
theorem ggX4_addChamber_X0_findChamber : GoodIn wsX4_addChamber wsX0_findChamber := goodIn_r _ [17, 18, 19, 20, 21, 29, 30, 31, 32, 33, 34, 35, 36, 37, 38, 39, 40, 41, 42, 43] (by decide +kernel) (by decide +kernel)
set_option maxRecDepth 20000 in
theorem gX4_addChamber_X0_findChamber : GoodIn wsX4_addChamber (wsV RX4 63 RX0 yX0_findChamber wsX0_findChamber) := goodIn_app (goodIn_of _ (by decide +kernel)) ggX4_addChamber_X0_findChamber
theorem dX4_addChamber_0 : decode cX4_addChamber 0 = .ok (.iload_n 1, 1) := by decide +kernel
theorem dX4_addChamber_1 : decode cX4_addChamber 1 = .ok (.iconst 0, 1) := by decide +kernel
theorem dX4_addChamber_2 : decode cX4_addChamber 2 = .ok (.bipush 100, 2) := by decide +kernel
theorem dX4_addChamber_4 : decode cX4_addChamber 4 = .ok (.invokestatic 45, 3) := by decide +kernel
theorem dX4_addChamber_7 : decode cX4_addChamber 7 = .ok (.invokestatic 49, 3) := by decide +kernel
theorem dX4_addChamber_10 : decode cX4_addChamber 10 = .ok (.iload_n 2, 1) := by decide +kernel
theorem dX4_addChamber_11 : decode cX4_addChamber 11 = .ok (.iconst 0, 1) := by decide +kernel
theorem dX4_addChamber_12 : decode cX4_addChamber 12 = .ok (.bipush 30, 2) := by decide +kernel
theorem dX4_addChamber_14 : decode cX4_addChamber 14 = .ok (.invokestatic 45, 3) := by decide +kernel
theorem dX4_addChamber_17 : decode cX4_addChamber 17 = .ok (.invokestatic 49, 3) := by decide +kernel
theorem dX4_addChamber_20 : decode cX4_addChamber 20 = .ok (.iload_n 3, 1) := by decide +kernel
theorem dX4_addChamber_21 : decode cX4_addChamber 21 = .ok (.iconst 0, 1) := by decide +kernel
theorem dX4_addChamber_22 : decode cX4_addChamber 22 = .ok (.bipush 20, 2) := by decide +kernel
theorem dX4_addChamber_24 : decode cX4_addChamber 24 = .ok (.invokestatic 45, 3) := by decide +kernel
theorem dX4_addChamber_27 : decode cX4_addChamber 27 = .ok (.invokestatic 49, 3) := by decide +kernel
theorem dX4_addChamber_30 : decode cX4_addChamber 30 = .ok (.aload_n 0, 1) := by decide +kernel
theorem dX4_addChamber_31 : decode cX4_addChamber 31 = .ok (.getfield 12, 3) := by decide +kernel
theorem dX4_addChamber_34 : decode cX4_addChamber 34 = .ok (.getfield 53, 3) := by decide +kernel
theorem dX4_addChamber_37 : decode cX4_addChamber 37 = .ok (.bipush 12, 2) := by decide +kernel
theorem dX4_addChamber_39 : decode cX4_addChamber 39 = .ok (.if_icmp .lt 13, 3) := by decide +kernel
theorem dX4_addChamber_42 : decode cX4_addChamber 42 = .ok (.new 56, 3) := by decide +kernel
theorem dX4_addChamber_45 : decode cX4_addChamber 45 = .ok (.dup, 1) := by decide +kernel
theorem dX4_addChamber_46 : decode cX4_addChamber 46 = .ok (.ldc 58, 2) := by decide +kernel
theorem dX4_addChamber_48 : decode cX4_addChamber 48 = .ok (.invokespecial 60, 3) := by decide +kernel
theorem dX4_addChamber_51 : decode cX4_addChamber 51 = .ok (.athrow, 1) := by decide +kernel
theorem dX4_addChamber_52 : decode cX4_addChamber 52 = .ok (.aload_n 0, 1) := by decide +kernel
theorem dX4_addChamber_53 : decode cX4_addChamber 53 = .ok (.getfield 12, 3) := by decide +kernel
theorem dX4_addChamber_56 : decode cX4_addChamber 56 = .ok (.iload_n 1, 1) := by decide +kernel
theorem dX4_addChamber_57 : decode cX4_addChamber 57 = .ok (.iload_n 2, 1) := by decide +kernel
theorem dX4_addChamber_58 : decode cX4_addChamber 58 = .ok (.iload_n 3, 1) := by decide +kernel
theorem dX4_addChamber_59 : decode cX4_addChamber 59 = .ok (.invokevirtual 63, 3) := by decide +kernel
theorem dX4_addChamber_62 : decode cX4_addChamber 62 = .ok (.ireturn, 1) := by decide +kernel
set_option maxRecDepth 20000 in
theorem ggX4_addPassage_X0_hasChamber : GoodIn wsX4_addPassage wsX0_hasChamber := goodIn_r _ [8, 9, 10, 11, 12, 46, 47, 48, 49, 50, 51, 52, 53, 54, 55, 56, 57, 58, 59, 60] (by decide +kernel) (by decide +kernel)
set_option maxRecDepth 20000 in
theorem gX4_addPassage_X0_hasChamber : GoodIn wsX4_addPassage (wsV RX4 67 RX0 yX0_hasChamber wsX0_hasChamber) := goodIn_app (goodIn_of _ (by decide +kernel)) ggX4_addPassage_X0_hasChamber
set_option maxRecDepth 20000 in
theorem ggX4_addPassage_X4_requireIndex : GoodIn wsX4_addPassage wsX4_requireIndex := goodIn_ca (goodIn_r _ [15, 16, 17] (by decide +kernel) (by decide +kernel)) (goodIn_sub (fun _ h => List.mem_cons_of_mem _ (List.mem_append_left _ (List.mem_append_right _ h))) (by decide +kernel))
set_option maxRecDepth 20000 in
theorem gX4_addPassage_X4_requireIndex : GoodIn wsX4_addPassage (va_wsS RX4 71 yX4_requireIndex wsX4_requireIndex) := goodIn_app (goodIn_of _ (by decide +kernel)) ggX4_addPassage_X4_requireIndex
set_option maxRecDepth 20000 in
theorem ggX4_addPassage_X4_requireArgument : GoodIn wsX4_addPassage wsX4_requireArgument := goodIn_ca (goodIn_r _ [20, 21, 22] (by decide +kernel) (by decide +kernel)) (goodIn_sub (fun _ h => List.mem_cons_of_mem _ (List.mem_append_right _ h)) (by decide +kernel))
set_option maxRecDepth 20000 in
theorem gX4_addPassage_X4_requireArgument : GoodIn wsX4_addPassage (va_wsS RX4 49 yX4_requireArgument wsX4_requireArgument) := goodIn_app (goodIn_of _ (by decide +kernel)) ggX4_addPassage_X4_requireArgument
set_option maxRecDepth 20000 in
theorem ggX4_addPassage_X4_isWithin : GoodIn wsX4_addPassage wsX4_isWithin := goodIn_r _ [12] (by decide +kernel) (by decide +kernel)
set_option maxRecDepth 20000 in
theorem gX4_addPassage_X4_isWithin : GoodIn wsX4_addPassage (va_wsS RX4 45 yX4_isWithin wsX4_isWithin) := goodIn_app (goodIn_of _ (by decide +kernel)) ggX4_addPassage_X4_isWithin
set_option maxRecDepth 20000 in
theorem ggX4_addPassage_X0_findPassage : GoodIn wsX4_addPassage wsX0_findPassage := goodIn_r _ [27, 28, 29, 30, 31, 32, 33, 34, 35, 7, 36, 37, 38, 46, 47, 48, 49, 50, 51, 52, 53, 54, 55, 56, 57, 58, 59, 60] (by decide +kernel) (by decide +kernel)
set_option maxRecDepth 20000 in
theorem gX4_addPassage_X0_findPassage : GoodIn wsX4_addPassage (wsV RX4 79 RX0 yX0_findPassage wsX0_findPassage) := goodIn_app (goodIn_of _ (by decide +kernel)) ggX4_addPassage_X0_findPassage
theorem dX4_addPassage_0 : decode cX4_addPassage 0 = .ok (.aload_n 0, 1) := by decide +kernel
theorem dX4_addPassage_1 : decode cX4_addPassage 1 = .ok (.getfield 12, 3) := by decide +kernel
theorem dX4_addPassage_4 : decode cX4_addPassage 4 = .ok (.iload_n 1, 1) := by decide +kernel
theorem dX4_addPassage_5 : decode cX4_addPassage 5 = .ok (.invokevirtual 67, 3) := by decide +kernel
theorem dX4_addPassage_8 : decode cX4_addPassage 8 = .ok (.invokestatic 71, 3) := by decide +kernel
theorem dX4_addPassage_11 : decode cX4_addPassage 11 = .ok (.aload_n 0, 1) := by decide +kernel
theorem dX4_addPassage_12 : decode cX4_addPassage 12 = .ok (.getfield 12, 3) := by decide +kernel
theorem dX4_addPassage_15 : decode cX4_addPassage 15 = .ok (.iload_n 2, 1) := by decide +kernel
theorem dX4_addPassage_16 : decode cX4_addPassage 16 = .ok (.invokevirtual 67, 3) := by decide +kernel
theorem dX4_addPassage_19 : decode cX4_addPassage 19 = .ok (.invokestatic 71, 3) := by decide +kernel
theorem dX4_addPassage_22 : decode cX4_addPassage 22 = .ok (.iload_n 1, 1) := by decide +kernel
theorem dX4_addPassage_23 : decode cX4_addPassage 23 = .ok (.iload_n 2, 1) := by decide +kernel
theorem dX4_addPassage_24 : decode cX4_addPassage 24 = .ok (.if_icmp .eq 7, 3) := by decide +kernel
theorem dX4_addPassage_27 : decode cX4_addPassage 27 = .ok (.iconst 1, 1) := by decide +kernel
theorem dX4_addPassage_28 : decode cX4_addPassage 28 = .ok (.goto 4, 3) := by decide +kernel
theorem dX4_addPassage_31 : decode cX4_addPassage 31 = .ok (.iconst 0, 1) := by decide +kernel
theorem dX4_addPassage_32 : decode cX4_addPassage 32 = .ok (.invokestatic 49, 3) := by decide +kernel
theorem dX4_addPassage_35 : decode cX4_addPassage 35 = .ok (.iload_n 3, 1) := by decide +kernel
theorem dX4_addPassage_36 : decode cX4_addPassage 36 = .ok (.iconst 1, 1) := by decide +kernel
theorem dX4_addPassage_37 : decode cX4_addPassage 37 = .ok (.bipush 9, 2) := by decide +kernel
theorem dX4_addPassage_39 : decode cX4_addPassage 39 = .ok (.invokestatic 45, 3) := by decide +kernel
theorem dX4_addPassage_42 : decode cX4_addPassage 42 = .ok (.invokestatic 49, 3) := by decide +kernel
theorem dX4_addPassage_45 : decode cX4_addPassage 45 = .ok (.iload 4, 2) := by decide +kernel
theorem dX4_addPassage_47 : decode cX4_addPassage 47 = .ok (.iconst 0, 1) := by decide +kernel
theorem dX4_addPassage_48 : decode cX4_addPassage 48 = .ok (.bipush 9, 2) := by decide +kernel
theorem dX4_addPassage_50 : decode cX4_addPassage 50 = .ok (.invokestatic 45, 3) := by decide +kernel
theorem dX4_addPassage_53 : decode cX4_addPassage 53 = .ok (.invokestatic 49, 3) := by decide +kernel
theorem dX4_addPassage_56 : decode cX4_addPassage 56 = .ok (.aload_n 0, 1) := by decide +kernel
theorem dX4_addPassage_57 : decode cX4_addPassage 57 = .ok (.getfield 12, 3) := by decide +kernel
theorem dX4_addPassage_60 : decode cX4_addPassage 60 = .ok (.getfield 74, 3) := by decide +kernel
theorem dX4_addPassage_63 : decode cX4_addPassage 63 = .ok (.bipush 18, 2) := by decide +kernel
theorem dX4_addPassage_65 : decode cX4_addPassage 65 = .ok (.if_icmp .lt 13, 3) := by decide +kernel
theorem dX4_addPassage_68 : decode cX4_addPassage 68 = .ok (.new 56, 3) := by decide +kernel
theorem dX4_addPassage_71 : decode cX4_addPassage 71 = .ok (.dup, 1) := by decide +kernel
theorem dX4_addPassage_72 : decode cX4_addPassage 72 = .ok (.ldc 77, 2) := by decide +kernel
theorem dX4_addPassage_74 : decode cX4_addPassage 74 = .ok (.invokespecial 60, 3) := by decide +kernel
theorem dX4_addPassage_77 : decode cX4_addPassage 77 = .ok (.athrow, 1) := by decide +kernel
theorem dX4_addPassage_78 : decode cX4_addPassage 78 = .ok (.aload_n 0, 1) := by decide +kernel
theorem dX4_addPassage_79 : decode cX4_addPassage 79 = .ok (.getfield 12, 3) := by decide +kernel
theorem dX4_addPassage_82 : decode cX4_addPassage 82 = .ok (.iload_n 1, 1) := by decide +kernel
theorem dX4_addPassage_83 : decode cX4_addPassage 83 = .ok (.iload_n 2, 1) := by decide +kernel
theorem dX4_addPassage_84 : decode cX4_addPassage 84 = .ok (.iload_n 3, 1) := by decide +kernel
theorem dX4_addPassage_85 : decode cX4_addPassage 85 = .ok (.iload 4, 2) := by decide +kernel
theorem dX4_addPassage_87 : decode cX4_addPassage 87 = .ok (.invokevirtual 79, 3) := by decide +kernel
theorem dX4_addPassage_90 : decode cX4_addPassage 90 = .ok (.ireturn, 1) := by decide +kernel
set_option maxRecDepth 20000 in
theorem ggX4_setWater_X4_isWithin : GoodIn wsX4_setWater wsX4_isWithin := goodIn_r _ [5] (by decide +kernel) (by decide +kernel)
set_option maxRecDepth 20000 in
theorem gX4_setWater_X4_isWithin : GoodIn wsX4_setWater (va_wsS RX4 45 yX4_isWithin wsX4_isWithin) := goodIn_app (goodIn_of _ (by decide +kernel)) ggX4_setWater_X4_isWithin
set_option maxRecDepth 20000 in
theorem ggX4_setWater_X4_requireArgument : GoodIn wsX4_setWater wsX4_requireArgument := goodIn_ca (goodIn_r _ [8, 9, 10] (by decide +kernel) (by decide +kernel)) (goodIn_sub (fun _ h => List.mem_cons_of_mem _ (List.mem_append_right _ h)) (by decide +kernel))
set_option maxRecDepth 20000 in
theorem gX4_setWater_X4_requireArgument : GoodIn wsX4_setWater (va_wsS RX4 49 yX4_requireArgument wsX4_requireArgument) := goodIn_app (goodIn_of _ (by decide +kernel)) ggX4_setWater_X4_requireArgument
theorem dX4_setWater_0 : decode cX4_setWater 0 = .ok (.iload_n 1, 1) := by decide +kernel
theorem dX4_setWater_1 : decode cX4_setWater 1 = .ok (.iconst 0, 1) := by decide +kernel
theorem dX4_setWater_2 : decode cX4_setWater 2 = .ok (.bipush 30, 2) := by decide +kernel
theorem dX4_setWater_4 : decode cX4_setWater 4 = .ok (.invokestatic 45, 3) := by decide +kernel
theorem dX4_setWater_7 : decode cX4_setWater 7 = .ok (.invokestatic 49, 3) := by decide +kernel
theorem dX4_setWater_10 : decode cX4_setWater 10 = .ok (.aload_n 0, 1) := by decide +kernel
theorem dX4_setWater_11 : decode cX4_setWater 11 = .ok (.getfield 12, 3) := by decide +kernel
theorem dX4_setWater_14 : decode cX4_setWater 14 = .ok (.getfield 83, 3) := by decide +kernel
theorem dX4_setWater_17 : decode cX4_setWater 17 = .ok (.istore_n 2, 1) := by decide +kernel
theorem dX4_setWater_18 : decode cX4_setWater 18 = .ok (.aload_n 0, 1) := by decide +kernel
theorem dX4_setWater_19 : decode cX4_setWater 19 = .ok (.getfield 12, 3) := by decide +kernel
theorem dX4_setWater_22 : decode cX4_setWater 22 = .ok (.iload_n 1, 1) := by decide +kernel
theorem dX4_setWater_23 : decode cX4_setWater 23 = .ok (.putfield 83, 3) := by decide +kernel
theorem dX4_setWater_26 : decode cX4_setWater 26 = .ok (.iload_n 2, 1) := by decide +kernel
theorem dX4_setWater_27 : decode cX4_setWater 27 = .ok (.ireturn, 1) := by decide +kernel
set_option maxRecDepth 20000 in
theorem ggX4_setBats_X0_hasChamber : GoodIn wsX4_setBats wsX0_hasChamber := goodIn_r _ [6, 7, 8, 9, 10, 29, 30, 31, 32, 33, 34, 35, 36, 37, 38, 39, 40, 41, 42, 43] (by decide +kernel) (by decide +kernel)
set_option maxRecDepth 20000 in
theorem gX4_setBats_X0_hasChamber : GoodIn wsX4_setBats (wsV RX4 67 RX0 yX0_hasChamber wsX0_hasChamber) := goodIn_app (goodIn_of _ (by decide +kernel)) ggX4_setBats_X0_hasChamber
set_option maxRecDepth 20000 in
theorem ggX4_setBats_X4_requireIndex : GoodIn wsX4_setBats wsX4_requireIndex := goodIn_ca (goodIn_r _ [13, 14, 15] (by decide +kernel) (by decide +kernel)) (goodIn_sub (fun _ h => List.mem_cons_of_mem _ (List.mem_append_left _ (List.mem_append_right _ h))) (by decide +kernel))
set_option maxRecDepth 20000 in
theorem gX4_setBats_X4_requireIndex : GoodIn wsX4_setBats (va_wsS RX4 71 yX4_requireIndex wsX4_requireIndex) := goodIn_app (goodIn_of _ (by decide +kernel)) ggX4_setBats_X4_requireIndex
set_option maxRecDepth 20000 in
theorem ggX4_setBats_X4_isWithin : GoodIn wsX4_setBats wsX4_isWithin := goodIn_r _ [10] (by decide +kernel) (by decide +kernel)
set_option maxRecDepth 20000 in
theorem gX4_setBats_X4_isWithin : GoodIn wsX4_setBats (va_wsS RX4 45 yX4_isWithin wsX4_isWithin) := goodIn_app (goodIn_of _ (by decide +kernel)) ggX4_setBats_X4_isWithin
set_option maxRecDepth 20000 in
theorem ggX4_setBats_X4_requireArgument : GoodIn wsX4_setBats wsX4_requireArgument := goodIn_ca (goodIn_r _ [19, 20, 21] (by decide +kernel) (by decide +kernel)) (goodIn_sub (fun _ h => List.mem_cons_of_mem _ (List.mem_append_right _ h)) (by decide +kernel))
set_option maxRecDepth 20000 in
theorem gX4_setBats_X4_requireArgument : GoodIn wsX4_setBats (va_wsS RX4 49 yX4_requireArgument wsX4_requireArgument) := goodIn_app (goodIn_of _ (by decide +kernel)) ggX4_setBats_X4_requireArgument
theorem dX4_setBats_0 : decode cX4_setBats 0 = .ok (.aload_n 0, 1) := by decide +kernel
theorem dX4_setBats_1 : decode cX4_setBats 1 = .ok (.getfield 12, 3) := by decide +kernel
theorem dX4_setBats_4 : decode cX4_setBats 4 = .ok (.iload_n 1, 1) := by decide +kernel
theorem dX4_setBats_5 : decode cX4_setBats 5 = .ok (.invokevirtual 67, 3) := by decide +kernel
theorem dX4_setBats_8 : decode cX4_setBats 8 = .ok (.invokestatic 71, 3) := by decide +kernel
theorem dX4_setBats_11 : decode cX4_setBats 11 = .ok (.iload_n 2, 1) := by decide +kernel
theorem dX4_setBats_12 : decode cX4_setBats 12 = .ok (.iconst 0, 1) := by decide +kernel
theorem dX4_setBats_13 : decode cX4_setBats 13 = .ok (.bipush 20, 2) := by decide +kernel
theorem dX4_setBats_15 : decode cX4_setBats 15 = .ok (.invokestatic 45, 3) := by decide +kernel
theorem dX4_setBats_18 : decode cX4_setBats 18 = .ok (.invokestatic 49, 3) := by decide +kernel
theorem dX4_setBats_21 : decode cX4_setBats 21 = .ok (.aload_n 0, 1) := by decide +kernel
theorem dX4_setBats_22 : decode cX4_setBats 22 = .ok (.getfield 12, 3) := by decide +kernel
theorem dX4_setBats_25 : decode cX4_setBats 25 = .ok (.getfield 86, 3) := by decide +kernel
theorem dX4_setBats_28 : decode cX4_setBats 28 = .ok (.iload_n 1, 1) := by decide +kernel
theorem dX4_setBats_29 : decode cX4_setBats 29 = .ok (.iaload, 1) := by decide +kernel
theorem dX4_setBats_30 : decode cX4_setBats 30 = .ok (.istore_n 3, 1) := by decide +kernel
theorem dX4_setBats_31 : decode cX4_setBats 31 = .ok (.aload_n 0, 1) := by decide +kernel
theorem dX4_setBats_32 : decode cX4_setBats 32 = .ok (.getfield 12, 3) := by decide +kernel
theorem dX4_setBats_35 : decode cX4_setBats 35 = .ok (.getfield 86, 3) := by decide +kernel
theorem dX4_setBats_38 : decode cX4_setBats 38 = .ok (.iload_n 1, 1) := by decide +kernel
theorem dX4_setBats_39 : decode cX4_setBats 39 = .ok (.iload_n 2, 1) := by decide +kernel
theorem dX4_setBats_40 : decode cX4_setBats 40 = .ok (.iastore, 1) := by decide +kernel
theorem dX4_setBats_41 : decode cX4_setBats 41 = .ok (.iload_n 3, 1) := by decide +kernel
theorem dX4_setBats_42 : decode cX4_setBats 42 = .ok (.ireturn, 1) := by decide +kernel
set_option maxRecDepth 20000 in
theorem ggX4_setClapper_X0_hasChamber : GoodIn wsX4_setClapper wsX0_hasChamber := goodIn_r _ [6, 7, 8, 9, 10, 35, 36, 37, 38, 39, 40, 41, 42, 43, 44, 45, 46, 47, 48, 49] (by decide +kernel) (by decide +kernel)
set_option maxRecDepth 20000 in
theorem gX4_setClapper_X0_hasChamber : GoodIn wsX4_setClapper (wsV RX4 67 RX0 yX0_hasChamber wsX0_hasChamber) := goodIn_app (goodIn_of _ (by decide +kernel)) ggX4_setClapper_X0_hasChamber
set_option maxRecDepth 20000 in
theorem ggX4_setClapper_X4_requireIndex : GoodIn wsX4_setClapper wsX4_requireIndex := goodIn_ca (goodIn_r _ [13, 14, 15] (by decide +kernel) (by decide +kernel)) (goodIn_sub (fun _ h => List.mem_cons_of_mem _ (List.mem_append_left _ (List.mem_append_right _ h))) (by decide +kernel))
set_option maxRecDepth 20000 in
theorem gX4_setClapper_X4_requireIndex : GoodIn wsX4_setClapper (va_wsS RX4 71 yX4_requireIndex wsX4_requireIndex) := goodIn_app (goodIn_of _ (by decide +kernel)) ggX4_setClapper_X4_requireIndex
set_option maxRecDepth 20000 in
theorem ggX4_setClapper_X4_requireArgument : GoodIn wsX4_setClapper wsX4_requireArgument := goodIn_ca (goodIn_r _ [18, 19, 20] (by decide +kernel) (by decide +kernel)) (goodIn_sub (fun _ h => List.mem_cons_of_mem _ (List.mem_append_right _ h)) (by decide +kernel))
set_option maxRecDepth 20000 in
theorem gX4_setClapper_X4_requireArgument : GoodIn wsX4_setClapper (va_wsS RX4 49 yX4_requireArgument wsX4_requireArgument) := goodIn_app (goodIn_of _ (by decide +kernel)) ggX4_setClapper_X4_requireArgument
set_option maxRecDepth 20000 in
theorem ggX4_setClapper_X4_isWithin : GoodIn wsX4_setClapper wsX4_isWithin := goodIn_r _ [10] (by decide +kernel) (by decide +kernel)
set_option maxRecDepth 20000 in
theorem gX4_setClapper_X4_isWithin : GoodIn wsX4_setClapper (va_wsS RX4 45 yX4_isWithin wsX4_isWithin) := goodIn_app (goodIn_of _ (by decide +kernel)) ggX4_setClapper_X4_isWithin
set_option maxRecDepth 20000 in
theorem ggX4_setClapper_X0_putClapper : GoodIn wsX4_setClapper wsX0_putClapper := goodIn_r _ [25, 26, 27, 35, 36, 37, 38, 39, 40, 41, 42, 43, 44, 45, 46, 47, 48, 49] (by decide +kernel) (by decide +kernel)
set_option maxRecDepth 20000 in
theorem gX4_setClapper_X0_putClapper : GoodIn wsX4_setClapper (wsV RX4 93 RX0 yX0_putClapper wsX0_putClapper) := goodIn_app (goodIn_of _ (by decide +kernel)) ggX4_setClapper_X0_putClapper
theorem dX4_setClapper_0 : decode cX4_setClapper 0 = .ok (.aload_n 0, 1) := by decide +kernel
theorem dX4_setClapper_1 : decode cX4_setClapper 1 = .ok (.getfield 12, 3) := by decide +kernel
theorem dX4_setClapper_4 : decode cX4_setClapper 4 = .ok (.iload_n 1, 1) := by decide +kernel
theorem dX4_setClapper_5 : decode cX4_setClapper 5 = .ok (.invokevirtual 67, 3) := by decide +kernel
theorem dX4_setClapper_8 : decode cX4_setClapper 8 = .ok (.invokestatic 71, 3) := by decide +kernel
theorem dX4_setClapper_11 : decode cX4_setClapper 11 = .ok (.iload_n 1, 1) := by decide +kernel
theorem dX4_setClapper_12 : decode cX4_setClapper 12 = .ok (.ifCond .eq 7, 3) := by decide +kernel
theorem dX4_setClapper_15 : decode cX4_setClapper 15 = .ok (.iconst 1, 1) := by decide +kernel
theorem dX4_setClapper_16 : decode cX4_setClapper 16 = .ok (.goto 4, 3) := by decide +kernel
theorem dX4_setClapper_19 : decode cX4_setClapper 19 = .ok (.iconst 0, 1) := by decide +kernel
theorem dX4_setClapper_20 : decode cX4_setClapper 20 = .ok (.invokestatic 49, 3) := by decide +kernel
theorem dX4_setClapper_23 : decode cX4_setClapper 23 = .ok (.iload_n 2, 1) := by decide +kernel
theorem dX4_setClapper_24 : decode cX4_setClapper 24 = .ok (.iconst 0, 1) := by decide +kernel
theorem dX4_setClapper_25 : decode cX4_setClapper 25 = .ok (.bipush 9, 2) := by decide +kernel
theorem dX4_setClapper_27 : decode cX4_setClapper 27 = .ok (.invokestatic 45, 3) := by decide +kernel
theorem dX4_setClapper_30 : decode cX4_setClapper 30 = .ok (.invokestatic 49, 3) := by decide +kernel
theorem dX4_setClapper_33 : decode cX4_setClapper 33 = .ok (.iload_n 3, 1) := by decide +kernel
theorem dX4_setClapper_34 : decode cX4_setClapper 34 = .ok (.iconst 0, 1) := by decide +kernel
theorem dX4_setClapper_35 : decode cX4_setClapper 35 = .ok (.bipush 20, 2) := by decide +kernel
theorem dX4_setClapper_37 : decode cX4_setClapper 37 = .ok (.invokestatic 45, 3) := by decide +kernel
theorem dX4_setClapper_40 : decode cX4_setClapper 40 = .ok (.invokestatic 49, 3) := by decide +kernel
theorem dX4_setClapper_43 : decode cX4_setClapper 43 = .ok (.aload_n 0, 1) := by decide +kernel
theorem dX4_setClapper_44 : decode cX4_setClapper 44 = .ok (.getfield 12, 3) := by decide +kernel
theorem dX4_setClapper_47 : decode cX4_setClapper 47 = .ok (.getfield 90, 3) := by decide +kernel
theorem dX4_setClapper_50 : decode cX4_setClapper 50 = .ok (.iload_n 1, 1) := by decide +kernel
theorem dX4_setClapper_51 : decode cX4_setClapper 51 = .ok (.iaload, 1) := by decide +kernel
theorem dX4_setClapper_52 : decode cX4_setClapper 52 = .ok (.istore 4, 2) := by decide +kernel
theorem dX4_setClapper_54 : decode cX4_setClapper 54 = .ok (.aload_n 0, 1) := by decide +kernel
theorem dX4_setClapper_55 : decode cX4_setClapper 55 = .ok (.getfield 12, 3) := by decide +kernel
theorem dX4_setClapper_58 : decode cX4_setClapper 58 = .ok (.iload_n 1, 1) := by decide +kernel
theorem dX4_setClapper_59 : decode cX4_setClapper 59 = .ok (.iload_n 2, 1) := by decide +kernel
theorem dX4_setClapper_60 : decode cX4_setClapper 60 = .ok (.iload_n 3, 1) := by decide +kernel
theorem dX4_setClapper_61 : decode cX4_setClapper 61 = .ok (.invokevirtual 93, 3) := by decide +kernel
theorem dX4_setClapper_64 : decode cX4_setClapper 64 = .ok (.iload 4, 2) := by decide +kernel
theorem dX4_setClapper_66 : decode cX4_setClapper 66 = .ok (.ireturn, 1) := by decide +kernel
set_option maxRecDepth 20000 in
theorem ggX4_setEar_X4_isWithin : GoodIn wsX4_setEar wsX4_isWithin := goodIn_r _ [5] (by decide +kernel) (by decide +kernel)
set_option maxRecDepth 20000 in
theorem gX4_setEar_X4_isWithin : GoodIn wsX4_setEar (va_wsS RX4 45 yX4_isWithin wsX4_isWithin) := goodIn_app (goodIn_of _ (by decide +kernel)) ggX4_setEar_X4_isWithin
set_option maxRecDepth 20000 in
theorem ggX4_setEar_X4_requireArgument : GoodIn wsX4_setEar wsX4_requireArgument := goodIn_ca (goodIn_r _ [8, 9, 10] (by decide +kernel) (by decide +kernel)) (goodIn_sub (fun _ h => List.mem_cons_of_mem _ (List.mem_append_right _ h)) (by decide +kernel))
set_option maxRecDepth 20000 in
theorem gX4_setEar_X4_requireArgument : GoodIn wsX4_setEar (va_wsS RX4 49 yX4_requireArgument wsX4_requireArgument) := goodIn_app (goodIn_of _ (by decide +kernel)) ggX4_setEar_X4_requireArgument
theorem dX4_setEar_0 : decode cX4_setEar 0 = .ok (.iload_n 1, 1) := by decide +kernel
theorem dX4_setEar_1 : decode cX4_setEar 1 = .ok (.iconst 1, 1) := by decide +kernel
theorem dX4_setEar_2 : decode cX4_setEar 2 = .ok (.bipush 50, 2) := by decide +kernel
theorem dX4_setEar_4 : decode cX4_setEar 4 = .ok (.invokestatic 45, 3) := by decide +kernel
theorem dX4_setEar_7 : decode cX4_setEar 7 = .ok (.invokestatic 49, 3) := by decide +kernel
theorem dX4_setEar_10 : decode cX4_setEar 10 = .ok (.aload_n 0, 1) := by decide +kernel
theorem dX4_setEar_11 : decode cX4_setEar 11 = .ok (.getfield 35, 3) := by decide +kernel
theorem dX4_setEar_14 : decode cX4_setEar 14 = .ok (.istore_n 2, 1) := by decide +kernel
theorem dX4_setEar_15 : decode cX4_setEar 15 = .ok (.aload_n 0, 1) := by decide +kernel
theorem dX4_setEar_16 : decode cX4_setEar 16 = .ok (.iload_n 1, 1) := by decide +kernel
theorem dX4_setEar_17 : decode cX4_setEar 17 = .ok (.putfield 35, 3) := by decide +kernel
theorem dX4_setEar_20 : decode cX4_setEar 20 = .ok (.iload_n 2, 1) := by decide +kernel
theorem dX4_setEar_21 : decode cX4_setEar 21 = .ok (.ireturn, 1) := by decide +kernel
set_option maxRecDepth 20000 in
theorem ggX4_chamber_X0_hasChamber : GoodIn wsX4_chamber wsX0_hasChamber := goodIn_r _ [6, 7, 8, 9, 10, 46, 47, 48, 49, 50, 51, 52, 53, 54, 55, 56, 57, 58, 59, 60] (by decide +kernel) (by decide +kernel)
set_option maxRecDepth 20000 in
theorem gX4_chamber_X0_hasChamber : GoodIn wsX4_chamber (wsV RX4 67 RX0 yX0_hasChamber wsX0_hasChamber) := goodIn_app (goodIn_of _ (by decide +kernel)) ggX4_chamber_X0_hasChamber
set_option maxRecDepth 20000 in
theorem ggX4_chamber_X4_requireIndex : GoodIn wsX4_chamber wsX4_requireIndex := goodIn_ca (goodIn_r _ [13, 14, 15] (by decide +kernel) (by decide +kernel)) (goodIn_sub (fun _ h => List.mem_cons_of_mem _ (List.mem_append_right _ h)) (by decide +kernel))
set_option maxRecDepth 20000 in
theorem gX4_chamber_X4_requireIndex : GoodIn wsX4_chamber (va_wsS RX4 71 yX4_requireIndex wsX4_requireIndex) := goodIn_app (goodIn_of _ (by decide +kernel)) ggX4_chamber_X4_requireIndex
set_option maxRecDepth 20000 in
theorem ggX4_chamber_X4_isWithin : GoodIn wsX4_chamber wsX4_isWithin := goodIn_r _ [10] (by decide +kernel) (by decide +kernel)
set_option maxRecDepth 20000 in
theorem gX4_chamber_X4_isWithin : GoodIn wsX4_chamber (va_wsS RX4 45 yX4_isWithin wsX4_isWithin) := goodIn_app (goodIn_of _ (by decide +kernel)) ggX4_chamber_X4_isWithin
set_option maxRecDepth 20000 in
theorem ggX4_chamber_X0_chamberFact : GoodIn wsX4_chamber wsX0_chamberFact := goodIn_r _ [20, 21, 22, 23, 24, 25, 26, 27, 28, 29, 5, 30, 31, 32, 33, 34, 35, 36, 37, 38, 46, 47, 48, 49, 50, 51, 52, 53, 54, 55, 56, 57, 58, 59, 60] (by decide +kernel) (by decide +kernel)
set_option maxRecDepth 20000 in
theorem gX4_chamber_X0_chamberFact : GoodIn wsX4_chamber (wsV RX4 97 RX0 yX0_chamberFact wsX0_chamberFact) := goodIn_app (goodIn_of _ (by decide +kernel)) ggX4_chamber_X0_chamberFact
theorem dX4_chamber_0 : decode cX4_chamber 0 = .ok (.aload_n 0, 1) := by decide +kernel
theorem dX4_chamber_1 : decode cX4_chamber 1 = .ok (.getfield 12, 3) := by decide +kernel
theorem dX4_chamber_4 : decode cX4_chamber 4 = .ok (.iload_n 1, 1) := by decide +kernel
theorem dX4_chamber_5 : decode cX4_chamber 5 = .ok (.invokevirtual 67, 3) := by decide +kernel
theorem dX4_chamber_8 : decode cX4_chamber 8 = .ok (.invokestatic 71, 3) := by decide +kernel
theorem dX4_chamber_11 : decode cX4_chamber 11 = .ok (.iload_n 2, 1) := by decide +kernel
theorem dX4_chamber_12 : decode cX4_chamber 12 = .ok (.iconst 0, 1) := by decide +kernel
theorem dX4_chamber_13 : decode cX4_chamber 13 = .ok (.bipush 6, 2) := by decide +kernel
theorem dX4_chamber_15 : decode cX4_chamber 15 = .ok (.invokestatic 45, 3) := by decide +kernel
theorem dX4_chamber_18 : decode cX4_chamber 18 = .ok (.invokestatic 71, 3) := by decide +kernel
theorem dX4_chamber_21 : decode cX4_chamber 21 = .ok (.aload_n 0, 1) := by decide +kernel
theorem dX4_chamber_22 : decode cX4_chamber 22 = .ok (.getfield 12, 3) := by decide +kernel
theorem dX4_chamber_25 : decode cX4_chamber 25 = .ok (.iload_n 1, 1) := by decide +kernel
theorem dX4_chamber_26 : decode cX4_chamber 26 = .ok (.iload_n 2, 1) := by decide +kernel
theorem dX4_chamber_27 : decode cX4_chamber 27 = .ok (.invokevirtual 97, 3) := by decide +kernel
theorem dX4_chamber_30 : decode cX4_chamber 30 = .ok (.ireturn, 1) := by decide +kernel
set_option maxRecDepth 20000 in
theorem ggX4_passage_X0_hasPassage : GoodIn wsX4_passage wsX0_hasPassage := goodIn_r _ [6, 7, 8, 9, 10, 38, 39, 40, 41, 42, 43, 44, 45, 46, 47, 48, 49, 50, 51, 52] (by decide +kernel) (by decide +kernel)
set_option maxRecDepth 20000 in
theorem gX4_passage_X0_hasPassage : GoodIn wsX4_passage (wsV RX4 101 RX0 yX0_hasPassage wsX0_hasPassage) := goodIn_app (goodIn_of _ (by decide +kernel)) ggX4_passage_X0_hasPassage
set_option maxRecDepth 20000 in
theorem ggX4_passage_X4_requireIndex : GoodIn wsX4_passage wsX4_requireIndex := goodIn_ca (goodIn_r _ [13, 14, 15] (by decide +kernel) (by decide +kernel)) (goodIn_sub (fun _ h => List.mem_cons_of_mem _ (List.mem_append_right _ h)) (by decide +kernel))
set_option maxRecDepth 20000 in
theorem gX4_passage_X4_requireIndex : GoodIn wsX4_passage (va_wsS RX4 71 yX4_requireIndex wsX4_requireIndex) := goodIn_app (goodIn_of _ (by decide +kernel)) ggX4_passage_X4_requireIndex
set_option maxRecDepth 20000 in
theorem ggX4_passage_X4_isWithin : GoodIn wsX4_passage wsX4_isWithin := goodIn_r _ [10] (by decide +kernel) (by decide +kernel)
set_option maxRecDepth 20000 in
theorem gX4_passage_X4_isWithin : GoodIn wsX4_passage (va_wsS RX4 45 yX4_isWithin wsX4_isWithin) := goodIn_app (goodIn_of _ (by decide +kernel)) ggX4_passage_X4_isWithin
set_option maxRecDepth 20000 in
theorem ggX4_passage_X0_passageFact : GoodIn wsX4_passage wsX0_passageFact := goodIn_r _ [20, 21, 22, 23, 24, 25, 26, 27, 5, 28, 29, 30, 38, 39, 40, 41, 42, 43, 44, 45, 46, 47, 48, 49, 50, 51, 52] (by decide +kernel) (by decide +kernel)
set_option maxRecDepth 20000 in
theorem gX4_passage_X0_passageFact : GoodIn wsX4_passage (wsV RX4 104 RX0 yX0_passageFact wsX0_passageFact) := goodIn_app (goodIn_of _ (by decide +kernel)) ggX4_passage_X0_passageFact
theorem dX4_passage_0 : decode cX4_passage 0 = .ok (.aload_n 0, 1) := by decide +kernel
theorem dX4_passage_1 : decode cX4_passage 1 = .ok (.getfield 12, 3) := by decide +kernel
theorem dX4_passage_4 : decode cX4_passage 4 = .ok (.iload_n 1, 1) := by decide +kernel
theorem dX4_passage_5 : decode cX4_passage 5 = .ok (.invokevirtual 101, 3) := by decide +kernel
theorem dX4_passage_8 : decode cX4_passage 8 = .ok (.invokestatic 71, 3) := by decide +kernel
theorem dX4_passage_11 : decode cX4_passage 11 = .ok (.iload_n 2, 1) := by decide +kernel
theorem dX4_passage_12 : decode cX4_passage 12 = .ok (.iconst 0, 1) := by decide +kernel
theorem dX4_passage_13 : decode cX4_passage 13 = .ok (.iconst 4, 1) := by decide +kernel
theorem dX4_passage_14 : decode cX4_passage 14 = .ok (.invokestatic 45, 3) := by decide +kernel
theorem dX4_passage_17 : decode cX4_passage 17 = .ok (.invokestatic 71, 3) := by decide +kernel
theorem dX4_passage_20 : decode cX4_passage 20 = .ok (.aload_n 0, 1) := by decide +kernel
theorem dX4_passage_21 : decode cX4_passage 21 = .ok (.getfield 12, 3) := by decide +kernel
theorem dX4_passage_24 : decode cX4_passage 24 = .ok (.iload_n 1, 1) := by decide +kernel
theorem dX4_passage_25 : decode cX4_passage 25 = .ok (.iload_n 2, 1) := by decide +kernel
theorem dX4_passage_26 : decode cX4_passage 26 = .ok (.invokevirtual 104, 3) := by decide +kernel
theorem dX4_passage_29 : decode cX4_passage 29 = .ok (.ireturn, 1) := by decide +kernel
set_option maxRecDepth 20000 in
theorem ggX4_say_X4_requireWordAndBeat : GoodIn wsX4_say wsX4_requireWordAndBeat := goodIn_ca (goodIn_r _ [9, 10, 11, 8, 12, 13, 14, 15, 16, 17, 18, 19, 20, 21] (by decide +kernel) (by decide +kernel)) (goodIn_sub (fun _ h => List.mem_cons_of_mem _ (List.mem_append_right _ h)) (by decide +kernel))
set_option maxRecDepth 20000 in
theorem gX4_say_X4_requireWordAndBeat : GoodIn wsX4_say (va_wsS RX4 107 yX4_requireWordAndBeat wsX4_requireWordAndBeat) := goodIn_app (goodIn_of _ (by decide +kernel)) ggX4_say_X4_requireWordAndBeat
set_option maxRecDepth 20000 in
theorem ggX4_say_X3_runThrough : GoodIn wsX4_say wsX3_runThrough := goodIn_r _ [26, 27, 28, 8, 29, 30, 31, 32, 33, 34, 35, 36, 37, 38, 39, 40, 41, 42, 43, 44, 45, 46, 47, 48, 25, 49, 50, 51, 52, 53, 54, 55, 56, 57, 58, 59, 60, 61, 62, 63, 64, 65, 66, 67, 68, 69, 70, 71, 72, 73, 74, 75, 76, 77, 78, 79, 80, 81, 82, 83, 84, 85, 86, 87, 88, 89, 90, 91, 92, 93, 94, 95, 96, 97, 98, 99, 100, 101, 102, 103, 104, 105, 106, 107, 108, 109, 110, 15, 16, 111, 112, 113, 114, 115, 116, 117, 118, 119, 120, 121, 122, 123, 124, 125, 126, 127, 128, 129, 130, 131, 132, 133, 134, 135, 136, 137, 138, 139, 140, 141, 142, 143, 144, 145, 146, 147, 148, 149, 150, 151, 152, 153, 154, 155, 156, 157, 158, 174, 175, 176, 177, 178, 179, 180, 166, 167, 168, 169, 170, 171, 172, 173, 181, 182, 183, 184, 185, 186, 187, 188, 189, 190, 191, 192, 193, 194, 195, 196, 197] (by decide +kernel) (by decide +kernel)
set_option maxRecDepth 20000 in
theorem gX4_say_X3_runThrough : GoodIn wsX4_say (wsV RX4 111 RX3 yX3_runThrough wsX3_runThrough) := goodIn_app (goodIn_of _ (by decide +kernel)) ggX4_say_X3_runThrough
theorem dX4_say_0 : decode cX4_say 0 = .ok (.iload_n 1, 1) := by decide +kernel
theorem dX4_say_1 : decode cX4_say 1 = .ok (.iload_n 2, 1) := by decide +kernel
theorem dX4_say_2 : decode cX4_say 2 = .ok (.invokestatic 107, 3) := by decide +kernel
theorem dX4_say_5 : decode cX4_say 5 = .ok (.aload_n 0, 1) := by decide +kernel
theorem dX4_say_6 : decode cX4_say 6 = .ok (.getfield 21, 3) := by decide +kernel
theorem dX4_say_9 : decode cX4_say 9 = .ok (.iload_n 1, 1) := by decide +kernel
theorem dX4_say_10 : decode cX4_say 10 = .ok (.iload_n 2, 1) := by decide +kernel
theorem dX4_say_11 : decode cX4_say 11 = .ok (.aload_n 0, 1) := by decide +kernel
theorem dX4_say_12 : decode cX4_say 12 = .ok (.getfield 35, 3) := by decide +kernel
theorem dX4_say_15 : decode cX4_say 15 = .ok (.aload_n 0, 1) := by decide +kernel
theorem dX4_say_16 : decode cX4_say 16 = .ok (.getfield 28, 3) := by decide +kernel
theorem dX4_say_19 : decode cX4_say 19 = .ok (.invokevirtual 111, 3) := by decide +kernel
theorem dX4_say_22 : decode cX4_say 22 = .ok (.aload_n 0, 1) := by decide +kernel
theorem dX4_say_23 : decode cX4_say 23 = .ok (.dup, 1) := by decide +kernel
theorem dX4_say_24 : decode cX4_say 24 = .ok (.getfield 39, 3) := by decide +kernel
theorem dX4_say_27 : decode cX4_say 27 = .ok (.iconst 1, 1) := by decide +kernel
theorem dX4_say_28 : decode cX4_say 28 = .ok (.iadd, 1) := by decide +kernel
theorem dX4_say_29 : decode cX4_say 29 = .ok (.putfield 39, 3) := by decide +kernel
theorem dX4_say_32 : decode cX4_say 32 = .ok (.aload_n 0, 1) := by decide +kernel
theorem dX4_say_33 : decode cX4_say 33 = .ok (.iload_n 1, 1) := by decide +kernel
theorem dX4_say_34 : decode cX4_say 34 = .ok (.putfield 42, 3) := by decide +kernel
theorem dX4_say_37 : decode cX4_say 37 = .ok (.aload_n 0, 1) := by decide +kernel
theorem dX4_say_38 : decode cX4_say 38 = .ok (.getfield 28, 3) := by decide +kernel
theorem dX4_say_41 : decode cX4_say 41 = .ok (.getfield 115, 3) := by decide +kernel
theorem dX4_say_44 : decode cX4_say 44 = .ok (.ireturn, 1) := by decide +kernel
set_option maxRecDepth 20000 in
theorem ggX4_heard_X4_isWithin : GoodIn wsX4_heard wsX4_isWithin := goodIn_r _ [5] (by decide +kernel) (by decide +kernel)
set_option maxRecDepth 20000 in
theorem gX4_heard_X4_isWithin : GoodIn wsX4_heard (va_wsS RX4 45 yX4_isWithin wsX4_isWithin) := goodIn_app (goodIn_of _ (by decide +kernel)) ggX4_heard_X4_isWithin
set_option maxRecDepth 20000 in
theorem ggX4_heard_X4_requireIndex : GoodIn wsX4_heard wsX4_requireIndex := goodIn_ca (goodIn_r _ [8, 9, 10] (by decide +kernel) (by decide +kernel)) (goodIn_sub (fun _ h => List.mem_cons_of_mem _ (List.mem_append_right _ h)) (by decide +kernel))
set_option maxRecDepth 20000 in
theorem gX4_heard_X4_requireIndex : GoodIn wsX4_heard (va_wsS RX4 71 yX4_requireIndex wsX4_requireIndex) := goodIn_app (goodIn_of _ (by decide +kernel)) ggX4_heard_X4_requireIndex
set_option maxRecDepth 20000 in
theorem ggX4_heard_X2_heardFact : GoodIn wsX4_heard wsX2_heardFact := goodIn_r _ [15, 16, 24, 25, 26, 27, 28, 29, 30, 31] (by decide +kernel) (by decide +kernel)
set_option maxRecDepth 20000 in
theorem gX4_heard_X2_heardFact : GoodIn wsX4_heard (wsV RX4 121 RX2 yX2_heardFact wsX2_heardFact) := goodIn_app (goodIn_of _ (by decide +kernel)) ggX4_heard_X2_heardFact
theorem dX4_heard_0 : decode cX4_heard 0 = .ok (.iload_n 1, 1) := by decide +kernel
theorem dX4_heard_1 : decode cX4_heard 1 = .ok (.iconst 0, 1) := by decide +kernel
theorem dX4_heard_2 : decode cX4_heard 2 = .ok (.aload_n 0, 1) := by decide +kernel
theorem dX4_heard_3 : decode cX4_heard 3 = .ok (.getfield 28, 3) := by decide +kernel
theorem dX4_heard_6 : decode cX4_heard 6 = .ok (.getfield 118, 3) := by decide +kernel
theorem dX4_heard_9 : decode cX4_heard 9 = .ok (.iconst 1, 1) := by decide +kernel
theorem dX4_heard_10 : decode cX4_heard 10 = .ok (.isub, 1) := by decide +kernel
theorem dX4_heard_11 : decode cX4_heard 11 = .ok (.invokestatic 45, 3) := by decide +kernel
theorem dX4_heard_14 : decode cX4_heard 14 = .ok (.invokestatic 71, 3) := by decide +kernel
theorem dX4_heard_17 : decode cX4_heard 17 = .ok (.iload_n 2, 1) := by decide +kernel
theorem dX4_heard_18 : decode cX4_heard 18 = .ok (.iconst 0, 1) := by decide +kernel
theorem dX4_heard_19 : decode cX4_heard 19 = .ok (.iconst 4, 1) := by decide +kernel
theorem dX4_heard_20 : decode cX4_heard 20 = .ok (.invokestatic 45, 3) := by decide +kernel
theorem dX4_heard_23 : decode cX4_heard 23 = .ok (.invokestatic 71, 3) := by decide +kernel
theorem dX4_heard_26 : decode cX4_heard 26 = .ok (.aload_n 0, 1) := by decide +kernel
theorem dX4_heard_27 : decode cX4_heard 27 = .ok (.getfield 28, 3) := by decide +kernel
theorem dX4_heard_30 : decode cX4_heard 30 = .ok (.iload_n 1, 1) := by decide +kernel
theorem dX4_heard_31 : decode cX4_heard 31 = .ok (.iload_n 2, 1) := by decide +kernel
theorem dX4_heard_32 : decode cX4_heard 32 = .ok (.invokevirtual 121, 3) := by decide +kernel
theorem dX4_heard_35 : decode cX4_heard 35 = .ok (.ireturn, 1) := by decide +kernel
set_option maxRecDepth 20000 in
theorem ggX4_inOrder_X2_cameInOrder : GoodIn wsX4_inOrder wsX2_cameInOrder := goodIn_r _ [6, 7, 8, 16, 17, 18, 19, 20, 21, 22, 23] (by decide +kernel) (by decide +kernel)
set_option maxRecDepth 20000 in
theorem gX4_inOrder_X2_cameInOrder : GoodIn wsX4_inOrder (wsV RX4 124 RX2 yX2_cameInOrder wsX2_cameInOrder) := goodIn_app (goodIn_of _ (by decide +kernel)) ggX4_inOrder_X2_cameInOrder
theorem dX4_inOrder_0 : decode cX4_inOrder 0 = .ok (.aload_n 0, 1) := by decide +kernel
theorem dX4_inOrder_1 : decode cX4_inOrder 1 = .ok (.getfield 28, 3) := by decide +kernel
theorem dX4_inOrder_4 : decode cX4_inOrder 4 = .ok (.invokevirtual 124, 3) := by decide +kernel
theorem dX4_inOrder_7 : decode cX4_inOrder 7 = .ok (.ireturn, 1) := by decide +kernel
set_option maxRecDepth 20000 in
theorem ggX4_first_X4_isWithin : GoodIn wsX4_first wsX4_isWithin := goodIn_r _ [5] (by decide +kernel) (by decide +kernel)
set_option maxRecDepth 20000 in
theorem gX4_first_X4_isWithin : GoodIn wsX4_first (va_wsS RX4 45 yX4_isWithin wsX4_isWithin) := goodIn_app (goodIn_of _ (by decide +kernel)) ggX4_first_X4_isWithin
set_option maxRecDepth 20000 in
theorem ggX4_first_X4_requireIndex : GoodIn wsX4_first wsX4_requireIndex := goodIn_ca (goodIn_r _ [8, 9, 10] (by decide +kernel) (by decide +kernel)) (goodIn_sub (fun _ h => List.mem_cons_of_mem _ (List.mem_append_right _ h)) (by decide +kernel))
set_option maxRecDepth 20000 in
theorem gX4_first_X4_requireIndex : GoodIn wsX4_first (va_wsS RX4 71 yX4_requireIndex wsX4_requireIndex) := goodIn_app (goodIn_of _ (by decide +kernel)) ggX4_first_X4_requireIndex
theorem dX4_first_0 : decode cX4_first 0 = .ok (.iload_n 1, 1) := by decide +kernel
theorem dX4_first_1 : decode cX4_first 1 = .ok (.iconst 0, 1) := by decide +kernel
theorem dX4_first_2 : decode cX4_first 2 = .ok (.aload_n 0, 1) := by decide +kernel
theorem dX4_first_3 : decode cX4_first 3 = .ok (.getfield 28, 3) := by decide +kernel
theorem dX4_first_6 : decode cX4_first 6 = .ok (.getfield 128, 3) := by decide +kernel
theorem dX4_first_9 : decode cX4_first 9 = .ok (.iconst 1, 1) := by decide +kernel
theorem dX4_first_10 : decode cX4_first 10 = .ok (.isub, 1) := by decide +kernel
theorem dX4_first_11 : decode cX4_first 11 = .ok (.invokestatic 45, 3) := by decide +kernel
theorem dX4_first_14 : decode cX4_first 14 = .ok (.invokestatic 71, 3) := by decide +kernel
theorem dX4_first_17 : decode cX4_first 17 = .ok (.aload_n 0, 1) := by decide +kernel
theorem dX4_first_18 : decode cX4_first 18 = .ok (.getfield 28, 3) := by decide +kernel
theorem dX4_first_21 : decode cX4_first 21 = .ok (.getfield 131, 3) := by decide +kernel
theorem dX4_first_24 : decode cX4_first 24 = .ok (.iload_n 1, 1) := by decide +kernel
theorem dX4_first_25 : decode cX4_first 25 = .ok (.iaload, 1) := by decide +kernel
theorem dX4_first_26 : decode cX4_first 26 = .ok (.ireturn, 1) := by decide +kernel
set_option maxRecDepth 20000 in
theorem ggX4_count_X4_isWithin : GoodIn wsX4_count wsX4_isWithin := goodIn_r _ [4] (by decide +kernel) (by decide +kernel)
set_option maxRecDepth 20000 in
theorem gX4_count_X4_isWithin : GoodIn wsX4_count (va_wsS RX4 45 yX4_isWithin wsX4_isWithin) := goodIn_app (goodIn_of _ (by decide +kernel)) ggX4_count_X4_isWithin
set_option maxRecDepth 20000 in
theorem ggX4_count_X4_requireIndex : GoodIn wsX4_count wsX4_requireIndex := goodIn_ca (goodIn_r _ [7, 8, 9] (by decide +kernel) (by decide +kernel)) (goodIn_sub (fun _ h => List.mem_cons_of_mem _ (List.mem_append_right _ h)) (by decide +kernel))
set_option maxRecDepth 20000 in
theorem gX4_count_X4_requireIndex : GoodIn wsX4_count (va_wsS RX4 71 yX4_requireIndex wsX4_requireIndex) := goodIn_app (goodIn_of _ (by decide +kernel)) ggX4_count_X4_requireIndex
set_option maxRecDepth 20000 in
theorem ggX4_count_X4_countFact : GoodIn wsX4_count wsX4_countFact := goodIn_r _ [13, 14, 15, 16, 17, 18, 19, 20, 21, 22, 23, 24, 25, 26, 27, 28, 29, 30, 31, 32, 33, 34, 35, 36, 37, 38, 39, 40, 41, 42, 43, 44, 45, 46, 47, 48, 49, 50, 51, 52, 53, 54, 55, 56, 57, 58, 59, 60, 61, 62, 63, 64, 65, 66, 67, 68] (by decide +kernel) (by decide +kernel)
set_option maxRecDepth 20000 in
theorem gX4_count_X4_countFact : GoodIn wsX4_count (wsV RX4 134 RX4 yX4_countFact wsX4_countFact) := goodIn_app (goodIn_of _ (by decide +kernel)) ggX4_count_X4_countFact
theorem dX4_count_0 : decode cX4_count 0 = .ok (.iload_n 1, 1) := by decide +kernel
theorem dX4_count_1 : decode cX4_count 1 = .ok (.iconst 0, 1) := by decide +kernel
theorem dX4_count_2 : decode cX4_count 2 = .ok (.bipush 9, 2) := by decide +kernel
theorem dX4_count_4 : decode cX4_count 4 = .ok (.invokestatic 45, 3) := by decide +kernel
theorem dX4_count_7 : decode cX4_count 7 = .ok (.invokestatic 71, 3) := by decide +kernel
theorem dX4_count_10 : decode cX4_count 10 = .ok (.aload_n 0, 1) := by decide +kernel
theorem dX4_count_11 : decode cX4_count 11 = .ok (.iload_n 1, 1) := by decide +kernel
theorem dX4_count_12 : decode cX4_count 12 = .ok (.invokevirtual 134, 3) := by decide +kernel
theorem dX4_count_15 : decode cX4_count 15 = .ok (.ireturn, 1) := by decide +kernel
set_option maxRecDepth 20000 in
theorem ggX4_would_X4_requireWordAndBeat : GoodIn wsX4_would wsX4_requireWordAndBeat := goodIn_ca (goodIn_r _ [7, 8, 9, 6, 10, 11, 12, 13, 14, 15, 16, 17, 18, 19] (by decide +kernel) (by decide +kernel)) (goodIn_sub (fun _ h => List.mem_cons_of_mem _ (List.mem_append_left _ (List.mem_append_right _ h))) (by decide +kernel))
set_option maxRecDepth 20000 in
theorem gX4_would_X4_requireWordAndBeat : GoodIn wsX4_would (va_wsS RX4 107 yX4_requireWordAndBeat wsX4_requireWordAndBeat) := goodIn_app (goodIn_of _ (by decide +kernel)) ggX4_would_X4_requireWordAndBeat
set_option maxRecDepth 20000 in
theorem ggX4_would_X4_isWithin : GoodIn wsX4_would wsX4_isWithin := goodIn_r _ [14] (by decide +kernel) (by decide +kernel)
set_option maxRecDepth 20000 in
theorem gX4_would_X4_isWithin : GoodIn wsX4_would (va_wsS RX4 45 yX4_isWithin wsX4_isWithin) := goodIn_app (goodIn_of _ (by decide +kernel)) ggX4_would_X4_isWithin
set_option maxRecDepth 20000 in
theorem ggX4_would_X4_requireIndex : GoodIn wsX4_would wsX4_requireIndex := goodIn_ca (goodIn_r _ [22, 23, 24] (by decide +kernel) (by decide +kernel)) (goodIn_sub (fun _ h => List.mem_cons_of_mem _ (List.mem_append_right _ h)) (by decide +kernel))
set_option maxRecDepth 20000 in
theorem gX4_would_X4_requireIndex : GoodIn wsX4_would (va_wsS RX4 71 yX4_requireIndex wsX4_requireIndex) := goodIn_app (goodIn_of _ (by decide +kernel)) ggX4_would_X4_requireIndex
set_option maxRecDepth 20000 in
theorem ggX4_would_X3_runThrough : GoodIn wsX4_would wsX3_runThrough := goodIn_r _ [29, 30, 31, 6, 32, 33, 34, 35, 36, 37, 38, 39, 40, 41, 42, 43, 44, 45, 46, 47, 48, 49, 50, 51, 28, 52, 53, 54, 55, 56, 57, 58, 59, 60, 61, 62, 63, 64, 65, 66, 67, 68, 69, 70, 71, 72, 73, 74, 75, 76, 77, 78, 79, 80, 81, 82, 83, 84, 85, 86, 87, 88, 89, 90, 91, 92, 93, 94, 95, 96, 97, 98, 99, 100, 101, 102, 103, 104, 105, 106, 107, 108, 109, 110, 111, 112, 113, 13, 14, 114, 115, 116, 117, 118, 119, 120, 121, 122, 123, 124, 125, 126, 127, 128, 129, 130, 131, 132, 133, 134, 135, 136, 137, 138, 139, 140, 141, 142, 143, 144, 145, 146, 147, 148, 149, 150, 151, 152, 153, 154, 155, 156, 157, 158, 159, 160, 161, 181, 182, 183, 184, 185, 186, 187, 173, 174, 175, 176, 177, 178, 179, 180, 188, 189, 190, 191, 192, 193, 194, 195, 196, 197, 198, 199, 200, 201, 202, 203, 204] (by decide +kernel) (by decide +kernel)
set_option maxRecDepth 20000 in
theorem gX4_would_X3_runThrough : GoodIn wsX4_would (wsV RX4 111 RX3 yX3_runThrough wsX3_runThrough) := goodIn_app (goodIn_of _ (by decide +kernel)) ggX4_would_X3_runThrough
set_option maxRecDepth 20000 in
theorem ggX4_would_X2_cameInOrder : GoodIn wsX4_would wsX2_cameInOrder := goodIn_r _ [165, 38, 42, 173, 174, 175, 176, 177, 178, 179, 180] (by decide +kernel) (by decide +kernel)
set_option maxRecDepth 20000 in
theorem gX4_would_X2_cameInOrder : GoodIn wsX4_would (wsV RX4 124 RX2 yX2_cameInOrder wsX2_cameInOrder) := goodIn_app (goodIn_of _ (by decide +kernel)) ggX4_would_X2_cameInOrder
theorem dX4_would_0 : decode cX4_would 0 = .ok (.iload_n 1, 1) := by decide +kernel
theorem dX4_would_1 : decode cX4_would 1 = .ok (.iload_n 2, 1) := by decide +kernel
theorem dX4_would_2 : decode cX4_would 2 = .ok (.invokestatic 107, 3) := by decide +kernel
theorem dX4_would_5 : decode cX4_would 5 = .ok (.iload_n 3, 1) := by decide +kernel
theorem dX4_would_6 : decode cX4_would 6 = .ok (.iconst 0, 1) := by decide +kernel
theorem dX4_would_7 : decode cX4_would 7 = .ok (.iconst 3, 1) := by decide +kernel
theorem dX4_would_8 : decode cX4_would 8 = .ok (.invokestatic 45, 3) := by decide +kernel
theorem dX4_would_11 : decode cX4_would 11 = .ok (.invokestatic 71, 3) := by decide +kernel
theorem dX4_would_14 : decode cX4_would 14 = .ok (.aload_n 0, 1) := by decide +kernel
theorem dX4_would_15 : decode cX4_would 15 = .ok (.getfield 21, 3) := by decide +kernel
theorem dX4_would_18 : decode cX4_would 18 = .ok (.iload_n 1, 1) := by decide +kernel
theorem dX4_would_19 : decode cX4_would 19 = .ok (.iload_n 2, 1) := by decide +kernel
theorem dX4_would_20 : decode cX4_would 20 = .ok (.aload_n 0, 1) := by decide +kernel
theorem dX4_would_21 : decode cX4_would 21 = .ok (.getfield 35, 3) := by decide +kernel
theorem dX4_would_24 : decode cX4_would 24 = .ok (.aload_n 0, 1) := by decide +kernel
theorem dX4_would_25 : decode cX4_would 25 = .ok (.getfield 32, 3) := by decide +kernel
theorem dX4_would_28 : decode cX4_would 28 = .ok (.invokevirtual 111, 3) := by decide +kernel
theorem dX4_would_31 : decode cX4_would 31 = .ok (.iload_n 3, 1) := by decide +kernel
theorem dX4_would_32 : decode cX4_would 32 = .ok (.tableswitch 60 0 2 #[28, 36, 52], 28) := by decide +kernel
theorem dX4_would_60 : decode cX4_would 60 = .ok (.aload_n 0, 1) := by decide +kernel
theorem dX4_would_61 : decode cX4_would 61 = .ok (.getfield 32, 3) := by decide +kernel
theorem dX4_would_64 : decode cX4_would 64 = .ok (.getfield 115, 3) := by decide +kernel
theorem dX4_would_67 : decode cX4_would 67 = .ok (.ireturn, 1) := by decide +kernel
theorem dX4_would_68 : decode cX4_would 68 = .ok (.aload_n 0, 1) := by decide +kernel
theorem dX4_would_69 : decode cX4_would 69 = .ok (.getfield 32, 3) := by decide +kernel
theorem dX4_would_72 : decode cX4_would 72 = .ok (.invokevirtual 124, 3) := by decide +kernel
theorem dX4_would_75 : decode cX4_would 75 = .ok (.ifCond .eq 7, 3) := by decide +kernel
theorem dX4_would_78 : decode cX4_would 78 = .ok (.iconst 1, 1) := by decide +kernel
theorem dX4_would_79 : decode cX4_would 79 = .ok (.goto 4, 3) := by decide +kernel
theorem dX4_would_82 : decode cX4_would 82 = .ok (.iconst 0, 1) := by decide +kernel
theorem dX4_would_83 : decode cX4_would 83 = .ok (.ireturn, 1) := by decide +kernel
theorem dX4_would_84 : decode cX4_would 84 = .ok (.aload_n 0, 1) := by decide +kernel
theorem dX4_would_85 : decode cX4_would 85 = .ok (.getfield 32, 3) := by decide +kernel
theorem dX4_would_88 : decode cX4_would 88 = .ok (.getfield 138, 3) := by decide +kernel
theorem dX4_would_91 : decode cX4_would 91 = .ok (.ireturn, 1) := by decide +kernel
theorem dX4_would_92 : decode cX4_would 92 = .ok (.aload_n 0, 1) := by decide +kernel
theorem dX4_would_93 : decode cX4_would 93 = .ok (.getfield 21, 3) := by decide +kernel
theorem dX4_would_96 : decode cX4_would 96 = .ok (.getfield 141, 3) := by decide +kernel
theorem dX4_would_99 : decode cX4_would 99 = .ok (.ireturn, 1) := by decide +kernel
set_option maxRecDepth 20000 in
theorem ggX4_advise_X4_requireWordAndBeat : GoodIn wsX4_advise wsX4_requireWordAndBeat := goodIn_ca (goodIn_r _ [5, 6, 7, 4, 8, 9, 10, 11, 12, 13, 14, 15, 16, 17] (by decide +kernel) (by decide +kernel)) (goodIn_sub (fun _ h => List.mem_cons_of_mem _ (List.mem_append_right _ h)) (by decide +kernel))
set_option maxRecDepth 20000 in
theorem gX4_advise_X4_requireWordAndBeat : GoodIn wsX4_advise (va_wsS RX4 107 yX4_requireWordAndBeat wsX4_requireWordAndBeat) := goodIn_app (goodIn_of _ (by decide +kernel)) ggX4_advise_X4_requireWordAndBeat
set_option maxRecDepth 20000 in
theorem ggX4_advise_X4_isWithin : GoodIn wsX4_advise wsX4_isWithin := goodIn_r _ [12] (by decide +kernel) (by decide +kernel)
set_option maxRecDepth 20000 in
theorem gX4_advise_X4_isWithin : GoodIn wsX4_advise (va_wsS RX4 45 yX4_isWithin wsX4_isWithin) := goodIn_app (goodIn_of _ (by decide +kernel)) ggX4_advise_X4_isWithin
set_option maxRecDepth 20000 in
theorem ggX4_advise_X4_requireArgument : GoodIn wsX4_advise wsX4_requireArgument := goodIn_ca (goodIn_r _ [15, 16, 17] (by decide +kernel) (by decide +kernel)) (goodIn_sub (fun _ h => List.mem_cons_of_mem _ (List.mem_append_right _ h)) (by decide +kernel))
set_option maxRecDepth 20000 in
theorem gX4_advise_X4_requireArgument : GoodIn wsX4_advise (va_wsS RX4 49 yX4_requireArgument wsX4_requireArgument) := goodIn_app (goodIn_of _ (by decide +kernel)) ggX4_advise_X4_requireArgument
set_option maxRecDepth 20000 in
theorem ggX4_advise_X0_putClapper : GoodIn wsX4_advise wsX0_putClapper := goodIn_r _ [22, 23, 24, 179, 180, 181, 182, 183, 184, 185, 186, 187, 188, 189, 190, 191, 192, 193] (by decide +kernel) (by decide +kernel)
set_option maxRecDepth 20000 in
theorem gX4_advise_X0_putClapper : GoodIn wsX4_advise (wsV RX4 93 RX0 yX0_putClapper wsX0_putClapper) := goodIn_app (goodIn_of _ (by decide +kernel)) ggX4_advise_X0_putClapper
set_option maxRecDepth 20000 in
theorem ggX4_advise_X4_wouldComeInOrder : GoodIn wsX4_advise wsX4_wouldComeInOrder := goodIn_r _ [28, 29, 30, 31, 32, 33, 34, 35, 36, 37, 38, 4, 39, 40, 41, 42, 43, 44, 45, 46, 47, 48, 49, 50, 51, 52, 53, 54, 55, 56, 57, 58, 59, 60, 61, 62, 63, 64, 65, 66, 67, 68, 69, 70, 71, 72, 73, 74, 75, 76, 77, 78, 79, 80, 81, 82, 83, 84, 85, 86, 87, 88, 89, 90, 91, 92, 93, 94, 95, 96, 97, 98, 99, 100, 101, 102, 103, 104, 105, 106, 107, 108, 109, 110, 111, 112, 113, 114, 115, 116, 117, 21, 118, 119, 11, 12, 120, 121, 122, 123, 124, 125, 126, 127, 128, 129, 130, 131, 132, 133, 134, 135, 136, 137, 138, 139, 140, 141, 142, 143, 144, 145, 146, 147, 148, 149, 150, 151, 152, 153, 154, 155, 156, 157, 158, 159, 160, 161, 162, 163, 164, 165, 166, 167, 168, 169, 170, 171, 172, 173, 174, 175, 176, 177, 178, 194, 195, 196, 197, 198, 199, 200, 201, 202, 203, 204, 205, 206, 207, 208, 209, 210, 179, 180, 181, 182, 183, 184, 185, 186, 187, 188, 189, 190, 191, 192, 193] (by decide +kernel) (by decide +kernel)
set_option maxRecDepth 20000 in
theorem gX4_advise_X4_wouldComeInOrder : GoodIn wsX4_advise (wsV RX4 147 RX4 yX4_wouldComeInOrder wsX4_wouldComeInOrder) := goodIn_app (goodIn_of _ (by decide +kernel)) ggX4_advise_X4_wouldComeInOrder
theorem dX4_advise_0 : decode cX4_advise 0 = .ok (.iload_n 1, 1) := by decide +kernel
theorem dX4_advise_1 : decode cX4_advise 1 = .ok (.iload_n 2, 1) := by decide +kernel
theorem dX4_advise_2 : decode cX4_advise 2 = .ok (.invokestatic 107, 3) := by decide +kernel
theorem dX4_advise_5 : decode cX4_advise 5 = .ok (.iload_n 3, 1) := by decide +kernel
theorem dX4_advise_6 : decode cX4_advise 6 = .ok (.iconst 1, 1) := by decide +kernel
theorem dX4_advise_7 : decode cX4_advise 7 = .ok (.bipush 9, 2) := by decide +kernel
theorem dX4_advise_9 : decode cX4_advise 9 = .ok (.invokestatic 45, 3) := by decide +kernel
theorem dX4_advise_12 : decode cX4_advise 12 = .ok (.invokestatic 49, 3) := by decide +kernel
theorem dX4_advise_15 : decode cX4_advise 15 = .ok (.iload 4, 2) := by decide +kernel
theorem dX4_advise_17 : decode cX4_advise 17 = .ok (.iconst 0, 1) := by decide +kernel
theorem dX4_advise_18 : decode cX4_advise 18 = .ok (.bipush 20, 2) := by decide +kernel
theorem dX4_advise_20 : decode cX4_advise 20 = .ok (.invokestatic 45, 3) := by decide +kernel
theorem dX4_advise_23 : decode cX4_advise 23 = .ok (.invokestatic 49, 3) := by decide +kernel
theorem dX4_advise_26 : decode cX4_advise 26 = .ok (.iconst 1, 1) := by decide +kernel
theorem dX4_advise_27 : decode cX4_advise 27 = .ok (.istore 5, 2) := by decide +kernel
theorem dX4_advise_29 : decode cX4_advise 29 = .ok (.iload 5, 2) := by decide +kernel
theorem dX4_advise_31 : decode cX4_advise 31 = .ok (.aload_n 0, 1) := by decide +kernel
theorem dX4_advise_32 : decode cX4_advise 32 = .ok (.getfield 12, 3) := by decide +kernel
