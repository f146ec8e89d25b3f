theorem dX5_say_164 : decode cX5_say 164 = .ok (.aload_n 0, 1) := by decide +kernel
theorem dX5_say_165 : decode cX5_say 165 = .ok (.getfield 50, 3) := by decide +kernel
theorem dX5_say_168 : decode cX5_say 168 = .ok (.ifCond .le 38, 3) := by decide +kernel
theorem dX5_say_171 : decode cX5_say 171 = .ok (.aload_n 0, 1) := by decide +kernel
theorem dX5_say_172 : decode cX5_say 172 = .ok (.dup, 1) := by decide +kernel
theorem dX5_say_173 : decode cX5_say 173 = .ok (.getfield 50, 3) := by decide +kernel
theorem dX5_say_176 : decode cX5_say 176 = .ok (.iconst 1, 1) := by decide +kernel
theorem dX5_say_177 : decode cX5_say 177 = .ok (.isub, 1) := by decide +kernel
theorem dX5_say_178 : decode cX5_say 178 = .ok (.putfield 50, 3) := by decide +kernel
theorem dX5_say_181 : decode cX5_say 181 = .ok (.aload_n 0, 1) := by decide +kernel
theorem dX5_say_182 : decode cX5_say 182 = .ok (.aload_n 0, 1) := by decide +kernel
theorem dX5_say_183 : decode cX5_say 183 = .ok (.getfield 38, 3) := by decide +kernel
theorem dX5_say_186 : decode cX5_say 186 = .ok (.aload_n 0, 1) := by decide +kernel
theorem dX5_say_187 : decode cX5_say 187 = .ok (.getfield 50, 3) := by decide +kernel
theorem dX5_say_190 : decode cX5_say 190 = .ok (.iaload, 1) := by decide +kernel
theorem dX5_say_191 : decode cX5_say 191 = .ok (.aload_n 0, 1) := by decide +kernel
theorem dX5_say_192 : decode cX5_say 192 = .ok (.getfield 41, 3) := by decide +kernel
theorem dX5_say_195 : decode cX5_say 195 = .ok (.aload_n 0, 1) := by decide +kernel
theorem dX5_say_196 : decode cX5_say 196 = .ok (.getfield 50, 3) := by decide +kernel
theorem dX5_say_199 : decode cX5_say 199 = .ok (.iaload, 1) := by decide +kernel
theorem dX5_say_200 : decode cX5_say 200 = .ok (.invokevirtual 122, 3) := by decide +kernel
theorem dX5_say_203 : decode cX5_say 203 = .ok (.goto (-39), 3) := by decide +kernel
theorem dX5_say_206 : decode cX5_say 206 = .ok (.return_, 1) := by decide +kernel
theorem dX5_isInOrder_0 : decode cX5_isInOrder 0 = .ok (.aload_n 0, 1) := by decide +kernel
theorem dX5_isInOrder_1 : decode cX5_isInOrder 1 = .ok (.getfield 113, 3) := by decide +kernel
theorem dX5_isInOrder_4 : decode cX5_isInOrder 4 = .ok (.ifCond .le 18, 3) := by decide +kernel
theorem dX5_isInOrder_7 : decode cX5_isInOrder 7 = .ok (.aload_n 0, 1) := by decide +kernel
theorem dX5_isInOrder_8 : decode cX5_isInOrder 8 = .ok (.getfield 75, 3) := by decide +kernel
theorem dX5_isInOrder_11 : decode cX5_isInOrder 11 = .ok (.aload_n 0, 1) := by decide +kernel
theorem dX5_isInOrder_12 : decode cX5_isInOrder 12 = .ok (.getfield 113, 3) := by decide +kernel
theorem dX5_isInOrder_15 : decode cX5_isInOrder 15 = .ok (.if_icmp .ne 7, 3) := by decide +kernel
theorem dX5_isInOrder_18 : decode cX5_isInOrder 18 = .ok (.iconst 1, 1) := by decide +kernel
theorem dX5_isInOrder_19 : decode cX5_isInOrder 19 = .ok (.goto 4, 3) := by decide +kernel
theorem dX5_isInOrder_22 : decode cX5_isInOrder 22 = .ok (.iconst 0, 1) := by decide +kernel
theorem dX5_isInOrder_23 : decode cX5_isInOrder 23 = .ok (.ireturn, 1) := by decide +kernel
set_option maxRecDepth 20000 in
theorem ggX6_init_X5_init : GoodIn wsX6_init wsX5_init := goodIn_r _ [15, 16, 17, 2, 3, 18, 6, 19, 20, 21, 22, 23, 24, 25, 26, 37, 38, 39, 40, 41, 42, 43, 44, 45, 46, 47, 48, 49, 50, 51, 52, 53, 54, 55, 56, 57] (by decide +kernel) (by decide +kernel)
set_option maxRecDepth 20000 in
theorem gX6_init_X5_init_n25 : GoodIn wsX6_init (wsX5_init) := ggX6_init_X5_init
theorem dX6_init_0 : decode cX6_init 0 = .ok (.aload_n 0, 1) := by decide +kernel
theorem dX6_init_1 : decode cX6_init 1 = .ok (.invokespecial 3, 3) := by decide +kernel
theorem dX6_init_4 : decode cX6_init 4 = .ok (.aload_n 0, 1) := by decide +kernel
theorem dX6_init_5 : decode cX6_init 5 = .ok (.iconst 1, 1) := by decide +kernel
theorem dX6_init_6 : decode cX6_init 6 = .ok (.putfield 9, 3) := by decide +kernel
theorem dX6_init_9 : decode cX6_init 9 = .ok (.aload_n 0, 1) := by decide +kernel
theorem dX6_init_10 : decode cX6_init 10 = .ok (.iconst 5, 1) := by decide +kernel
theorem dX6_init_11 : decode cX6_init 11 = .ok (.putfield 13, 3) := by decide +kernel
theorem dX6_init_14 : decode cX6_init 14 = .ok (.aload_n 0, 1) := by decide +kernel
theorem dX6_init_15 : decode cX6_init 15 = .ok (.bipush 60, 2) := by decide +kernel
theorem dX6_init_17 : decode cX6_init 17 = .ok (.newarray .int, 2) := by decide +kernel
theorem dX6_init_19 : decode cX6_init 19 = .ok (.putfield 16, 3) := by decide +kernel
theorem dX6_init_22 : decode cX6_init 22 = .ok (.aload_n 0, 1) := by decide +kernel
theorem dX6_init_23 : decode cX6_init 23 = .ok (.bipush 72, 2) := by decide +kernel
theorem dX6_init_25 : decode cX6_init 25 = .ok (.newarray .int, 2) := by decide +kernel
theorem dX6_init_27 : decode cX6_init 27 = .ok (.putfield 20, 3) := by decide +kernel
theorem dX6_init_30 : decode cX6_init 30 = .ok (.aload_n 0, 1) := by decide +kernel
theorem dX6_init_31 : decode cX6_init 31 = .ok (.new 23, 3) := by decide +kernel
theorem dX6_init_34 : decode cX6_init 34 = .ok (.dup, 1) := by decide +kernel
theorem dX6_init_35 : decode cX6_init 35 = .ok (.aload_n 0, 1) := by decide +kernel
theorem dX6_init_36 : decode cX6_init 36 = .ok (.invokespecial 25, 3) := by decide +kernel
theorem dX6_init_39 : decode cX6_init 39 = .ok (.putfield 28, 3) := by decide +kernel
theorem dX6_init_42 : decode cX6_init 42 = .ok (.aload_n 0, 1) := by decide +kernel
theorem dX6_init_43 : decode cX6_init 43 = .ok (.new 23, 3) := by decide +kernel
theorem dX6_init_46 : decode cX6_init 46 = .ok (.dup, 1) := by decide +kernel
theorem dX6_init_47 : decode cX6_init 47 = .ok (.aload_n 0, 1) := by decide +kernel
theorem dX6_init_48 : decode cX6_init 48 = .ok (.invokespecial 25, 3) := by decide +kernel
theorem dX6_init_51 : decode cX6_init 51 = .ok (.putfield 32, 3) := by decide +kernel
theorem dX6_init_54 : decode cX6_init 54 = .ok (.aload_n 0, 1) := by decide +kernel
theorem dX6_init_55 : decode cX6_init 55 = .ok (.getfield 16, 3) := by decide +kernel
theorem dX6_init_58 : decode cX6_init 58 = .ok (.iconst 1, 1) := by decide +kernel
theorem dX6_init_59 : decode cX6_init 59 = .ok (.bipush 30, 2) := by decide +kernel
theorem dX6_init_61 : decode cX6_init 61 = .ok (.iastore, 1) := by decide +kernel
theorem dX6_init_62 : decode cX6_init 62 = .ok (.return_, 1) := by decide +kernel
theorem dX6_thrown_0 : decode cX6_thrown 0 = .ok (.aload_n 0, 1) := by decide +kernel
theorem dX6_thrown_1 : decode cX6_thrown 1 = .ok (.getfield 35, 3) := by decide +kernel
theorem dX6_thrown_4 : decode cX6_thrown 4 = .ok (.ireturn, 1) := by decide +kernel
theorem dX6_no_0 : decode cX6_no 0 = .ok (.aload_n 0, 1) := by decide +kernel
theorem dX6_no_1 : decode cX6_no 1 = .ok (.iload_n 1, 1) := by decide +kernel
theorem dX6_no_2 : decode cX6_no 2 = .ok (.putfield 35, 3) := by decide +kernel
theorem dX6_no_5 : decode cX6_no 5 = .ok (.iconst 0, 1) := by decide +kernel
theorem dX6_no_6 : decode cX6_no 6 = .ok (.ireturn, 1) := by decide +kernel
theorem dX6_isIn_0 : decode cX6_isIn 0 = .ok (.iload_n 0, 1) := by decide +kernel
theorem dX6_isIn_1 : decode cX6_isIn 1 = .ok (.iload_n 1, 1) := by decide +kernel
theorem dX6_isIn_2 : decode cX6_isIn 2 = .ok (.if_icmp .lt 12, 3) := by decide +kernel
theorem dX6_isIn_5 : decode cX6_isIn 5 = .ok (.iload_n 0, 1) := by decide +kernel
theorem dX6_isIn_6 : decode cX6_isIn 6 = .ok (.iload_n 2, 1) := by decide +kernel
theorem dX6_isIn_7 : decode cX6_isIn 7 = .ok (.if_icmp .gt 7, 3) := by decide +kernel
theorem dX6_isIn_10 : decode cX6_isIn 10 = .ok (.iconst 1, 1) := by decide +kernel
theorem dX6_isIn_11 : decode cX6_isIn 11 = .ok (.goto 4, 3) := by decide +kernel
theorem dX6_isIn_14 : decode cX6_isIn 14 = .ok (.iconst 0, 1) := by decide +kernel
theorem dX6_isIn_15 : decode cX6_isIn 15 = .ok (.ireturn, 1) := by decide +kernel
set_option maxRecDepth 20000 in
theorem ggX6_isChamber_X6_isIn : GoodIn wsX6_isChamber wsX6_isIn := goodIn_r _ [5] (by decide +kernel) (by decide +kernel)
set_option maxRecDepth 20000 in
theorem gX6_isChamber_X6_isIn : GoodIn wsX6_isChamber (va_wsS RX6 38 yX6_isIn wsX6_isIn) := goodIn_app (goodIn_of _ (by decide +kernel)) ggX6_isChamber_X6_isIn
theorem dX6_isChamber_0 : decode cX6_isChamber 0 = .ok (.iload_n 1, 1) := by decide +kernel
theorem dX6_isChamber_1 : decode cX6_isChamber 1 = .ok (.iconst 0, 1) := by decide +kernel
theorem dX6_isChamber_2 : decode cX6_isChamber 2 = .ok (.aload_n 0, 1) := by decide +kernel
theorem dX6_isChamber_3 : decode cX6_isChamber 3 = .ok (.getfield 9, 3) := by decide +kernel
theorem dX6_isChamber_6 : decode cX6_isChamber 6 = .ok (.iconst 1, 1) := by decide +kernel
theorem dX6_isChamber_7 : decode cX6_isChamber 7 = .ok (.isub, 1) := by decide +kernel
theorem dX6_isChamber_8 : decode cX6_isChamber 8 = .ok (.invokestatic 38, 3) := by decide +kernel
theorem dX6_isChamber_11 : decode cX6_isChamber 11 = .ok (.ireturn, 1) := by decide +kernel
theorem dX6_touches_0 : decode cX6_touches 0 = .ok (.aload_n 0, 1) := by decide +kernel
theorem dX6_touches_1 : decode cX6_touches 1 = .ok (.getfield 20, 3) := by decide +kernel
theorem dX6_touches_4 : decode cX6_touches 4 = .ok (.iconst 4, 1) := by decide +kernel
theorem dX6_touches_5 : decode cX6_touches 5 = .ok (.iload_n 1, 1) := by decide +kernel
theorem dX6_touches_6 : decode cX6_touches 6 = .ok (.imul, 1) := by decide +kernel
theorem dX6_touches_7 : decode cX6_touches 7 = .ok (.iaload, 1) := by decide +kernel
theorem dX6_touches_8 : decode cX6_touches 8 = .ok (.iload_n 2, 1) := by decide +kernel
theorem dX6_touches_9 : decode cX6_touches 9 = .ok (.if_icmp .eq 17, 3) := by decide +kernel
theorem dX6_touches_12 : decode cX6_touches 12 = .ok (.aload_n 0, 1) := by decide +kernel
theorem dX6_touches_13 : decode cX6_touches 13 = .ok (.getfield 20, 3) := by decide +kernel
theorem dX6_touches_16 : decode cX6_touches 16 = .ok (.iconst 4, 1) := by decide +kernel
theorem dX6_touches_17 : decode cX6_touches 17 = .ok (.iload_n 1, 1) := by decide +kernel
theorem dX6_touches_18 : decode cX6_touches 18 = .ok (.imul, 1) := by decide +kernel
theorem dX6_touches_19 : decode cX6_touches 19 = .ok (.iconst 1, 1) := by decide +kernel
theorem dX6_touches_20 : decode cX6_touches 20 = .ok (.iadd, 1) := by decide +kernel
theorem dX6_touches_21 : decode cX6_touches 21 = .ok (.iaload, 1) := by decide +kernel
theorem dX6_touches_22 : decode cX6_touches 22 = .ok (.iload_n 2, 1) := by decide +kernel
theorem dX6_touches_23 : decode cX6_touches 23 = .ok (.if_icmp .ne 7, 3) := by decide +kernel
theorem dX6_touches_26 : decode cX6_touches 26 = .ok (.iconst 1, 1) := by decide +kernel
theorem dX6_touches_27 : decode cX6_touches 27 = .ok (.goto 4, 3) := by decide +kernel
theorem dX6_touches_30 : decode cX6_touches 30 = .ok (.iconst 0, 1) := by decide +kernel
theorem dX6_touches_31 : decode cX6_touches 31 = .ok (.ireturn, 1) := by decide +kernel
theorem dX6_isOpen_0 : decode cX6_isOpen 0 = .ok (.aload_n 0, 1) := by decide +kernel
theorem dX6_isOpen_1 : decode cX6_isOpen 1 = .ok (.getfield 16, 3) := by decide +kernel
theorem dX6_isOpen_4 : decode cX6_isOpen 4 = .ok (.iconst 5, 1) := by decide +kernel
theorem dX6_isOpen_5 : decode cX6_isOpen 5 = .ok (.aload_n 0, 1) := by decide +kernel
theorem dX6_isOpen_6 : decode cX6_isOpen 6 = .ok (.getfield 20, 3) := by decide +kernel
theorem dX6_isOpen_9 : decode cX6_isOpen 9 = .ok (.iconst 4, 1) := by decide +kernel
theorem dX6_isOpen_10 : decode cX6_isOpen 10 = .ok (.iload_n 1, 1) := by decide +kernel
theorem dX6_isOpen_11 : decode cX6_isOpen 11 = .ok (.imul, 1) := by decide +kernel
theorem dX6_isOpen_12 : decode cX6_isOpen 12 = .ok (.iaload, 1) := by decide +kernel
theorem dX6_isOpen_13 : decode cX6_isOpen 13 = .ok (.imul, 1) := by decide +kernel
theorem dX6_isOpen_14 : decode cX6_isOpen 14 = .ok (.iconst 1, 1) := by decide +kernel
theorem dX6_isOpen_15 : decode cX6_isOpen 15 = .ok (.iadd, 1) := by decide +kernel
theorem dX6_isOpen_16 : decode cX6_isOpen 16 = .ok (.iaload, 1) := by decide +kernel
theorem dX6_isOpen_17 : decode cX6_isOpen 17 = .ok (.iload_n 2, 1) := by decide +kernel
theorem dX6_isOpen_18 : decode cX6_isOpen 18 = .ok (.if_icmp .lt 30, 3) := by decide +kernel
theorem dX6_isOpen_21 : decode cX6_isOpen 21 = .ok (.aload_n 0, 1) := by decide +kernel
theorem dX6_isOpen_22 : decode cX6_isOpen 22 = .ok (.getfield 16, 3) := by decide +kernel
theorem dX6_isOpen_25 : decode cX6_isOpen 25 = .ok (.iconst 5, 1) := by decide +kernel
theorem dX6_isOpen_26 : decode cX6_isOpen 26 = .ok (.aload_n 0, 1) := by decide +kernel
theorem dX6_isOpen_27 : decode cX6_isOpen 27 = .ok (.getfield 20, 3) := by decide +kernel
theorem dX6_isOpen_30 : decode cX6_isOpen 30 = .ok (.iconst 4, 1) := by decide +kernel
theorem dX6_isOpen_31 : decode cX6_isOpen 31 = .ok (.iload_n 1, 1) := by decide +kernel
theorem dX6_isOpen_32 : decode cX6_isOpen 32 = .ok (.imul, 1) := by decide +kernel
theorem dX6_isOpen_33 : decode cX6_isOpen 33 = .ok (.iconst 1, 1) := by decide +kernel
theorem dX6_isOpen_34 : decode cX6_isOpen 34 = .ok (.iadd, 1) := by decide +kernel
theorem dX6_isOpen_35 : decode cX6_isOpen 35 = .ok (.iaload, 1) := by decide +kernel
theorem dX6_isOpen_36 : decode cX6_isOpen 36 = .ok (.imul, 1) := by decide +kernel
theorem dX6_isOpen_37 : decode cX6_isOpen 37 = .ok (.iconst 1, 1) := by decide +kernel
theorem dX6_isOpen_38 : decode cX6_isOpen 38 = .ok (.iadd, 1) := by decide +kernel
theorem dX6_isOpen_39 : decode cX6_isOpen 39 = .ok (.iaload, 1) := by decide +kernel
theorem dX6_isOpen_40 : decode cX6_isOpen 40 = .ok (.iload_n 2, 1) := by decide +kernel
theorem dX6_isOpen_41 : decode cX6_isOpen 41 = .ok (.if_icmp .lt 7, 3) := by decide +kernel
theorem dX6_isOpen_44 : decode cX6_isOpen 44 = .ok (.iconst 1, 1) := by decide +kernel
theorem dX6_isOpen_45 : decode cX6_isOpen 45 = .ok (.goto 4, 3) := by decide +kernel
theorem dX6_isOpen_48 : decode cX6_isOpen 48 = .ok (.iconst 0, 1) := by decide +kernel
theorem dX6_isOpen_49 : decode cX6_isOpen 49 = .ok (.ireturn, 1) := by decide +kernel
set_option maxRecDepth 20000 in
theorem ggX6_isWord_X6_isIn : GoodIn wsX6_isWord wsX6_isIn := goodIn_r _ [5] (by decide +kernel) (by decide +kernel)
set_option maxRecDepth 20000 in
theorem gX6_isWord_X6_isIn : GoodIn wsX6_isWord (va_wsS RX6 38 yX6_isIn wsX6_isIn) := goodIn_app (goodIn_of _ (by decide +kernel)) ggX6_isWord_X6_isIn
theorem dX6_isWord_0 : decode cX6_isWord 0 = .ok (.iload_n 0, 1) := by decide +kernel
theorem dX6_isWord_1 : decode cX6_isWord 1 = .ok (.iconst 1, 1) := by decide +kernel
theorem dX6_isWord_2 : decode cX6_isWord 2 = .ok (.ldc 42, 2) := by decide +kernel
theorem dX6_isWord_4 : decode cX6_isWord 4 = .ok (.invokestatic 38, 3) := by decide +kernel
theorem dX6_isWord_7 : decode cX6_isWord 7 = .ok (.istore_n 1, 1) := by decide +kernel
theorem dX6_isWord_8 : decode cX6_isWord 8 = .ok (.iload_n 0, 1) := by decide +kernel
theorem dX6_isWord_9 : decode cX6_isWord 9 = .ok (.istore_n 2, 1) := by decide +kernel
theorem dX6_isWord_10 : decode cX6_isWord 10 = .ok (.iload_n 2, 1) := by decide +kernel
theorem dX6_isWord_11 : decode cX6_isWord 11 = .ok (.ifCond .le 26, 3) := by decide +kernel
theorem dX6_isWord_14 : decode cX6_isWord 14 = .ok (.iload_n 1, 1) := by decide +kernel
theorem dX6_isWord_15 : decode cX6_isWord 15 = .ok (.iload_n 2, 1) := by decide +kernel
theorem dX6_isWord_16 : decode cX6_isWord 16 = .ok (.bipush 10, 2) := by decide +kernel
theorem dX6_isWord_18 : decode cX6_isWord 18 = .ok (.irem, 1) := by decide +kernel
theorem dX6_isWord_19 : decode cX6_isWord 19 = .ok (.ifCond .eq 7, 3) := by decide +kernel
theorem dX6_isWord_22 : decode cX6_isWord 22 = .ok (.iconst 1, 1) := by decide +kernel
theorem dX6_isWord_23 : decode cX6_isWord 23 = .ok (.goto 4, 3) := by decide +kernel
theorem dX6_isWord_26 : decode cX6_isWord 26 = .ok (.iconst 0, 1) := by decide +kernel
theorem dX6_isWord_27 : decode cX6_isWord 27 = .ok (.iand, 1) := by decide +kernel
theorem dX6_isWord_28 : decode cX6_isWord 28 = .ok (.istore_n 1, 1) := by decide +kernel
theorem dX6_isWord_29 : decode cX6_isWord 29 = .ok (.iload_n 2, 1) := by decide +kernel
theorem dX6_isWord_30 : decode cX6_isWord 30 = .ok (.bipush 10, 2) := by decide +kernel
theorem dX6_isWord_32 : decode cX6_isWord 32 = .ok (.idiv, 1) := by decide +kernel
theorem dX6_isWord_33 : decode cX6_isWord 33 = .ok (.istore_n 2, 1) := by decide +kernel
theorem dX6_isWord_34 : decode cX6_isWord 34 = .ok (.goto (-24), 3) := by decide +kernel
theorem dX6_isWord_37 : decode cX6_isWord 37 = .ok (.iload_n 1, 1) := by decide +kernel
theorem dX6_isWord_38 : decode cX6_isWord 38 = .ok (.ireturn, 1) := by decide +kernel
set_option maxRecDepth 20000 in
theorem ggX6_addChamber_X6_isIn : GoodIn wsX6_addChamber wsX6_isIn := goodIn_r _ [12] (by decide +kernel) (by decide +kernel)
set_option maxRecDepth 20000 in
theorem gX6_addChamber_X6_isIn : GoodIn wsX6_addChamber (va_wsS RX6 38 yX6_isIn wsX6_isIn) := goodIn_app (goodIn_of _ (by decide +kernel)) ggX6_addChamber_X6_isIn
set_option maxRecDepth 20000 in
theorem ggX6_addChamber_X6_no : GoodIn wsX6_addChamber wsX6_no := goodIn_r _ [16, 1, 17, 18, 19, 20, 21, 22, 23, 24, 25, 26] (by decide +kernel) (by decide +kernel)
set_option maxRecDepth 20000 in
theorem gX6_addChamber_X6_no : GoodIn wsX6_addChamber (wsV RX6 43 RX6 yX6_no wsX6_no) := goodIn_app (goodIn_of _ (by decide +kernel)) ggX6_addChamber_X6_no
theorem dX6_addChamber_0 : decode cX6_addChamber 0 = .ok (.aload_n 0, 1) := by decide +kernel
theorem dX6_addChamber_1 : decode cX6_addChamber 1 = .ok (.iconst 0, 1) := by decide +kernel
theorem dX6_addChamber_2 : decode cX6_addChamber 2 = .ok (.putfield 35, 3) := by decide +kernel
theorem dX6_addChamber_5 : decode cX6_addChamber 5 = .ok (.iload_n 1, 1) := by decide +kernel
theorem dX6_addChamber_6 : decode cX6_addChamber 6 = .ok (.iconst 0, 1) := by decide +kernel
theorem dX6_addChamber_7 : decode cX6_addChamber 7 = .ok (.bipush 100, 2) := by decide +kernel
theorem dX6_addChamber_9 : decode cX6_addChamber 9 = .ok (.invokestatic 38, 3) := by decide +kernel
theorem dX6_addChamber_12 : decode cX6_addChamber 12 = .ok (.ifCond .eq 23, 3) := by decide +kernel
theorem dX6_addChamber_15 : decode cX6_addChamber 15 = .ok (.iload_n 2, 1) := by decide +kernel
theorem dX6_addChamber_16 : decode cX6_addChamber 16 = .ok (.iconst 0, 1) := by decide +kernel
theorem dX6_addChamber_17 : decode cX6_addChamber 17 = .ok (.bipush 30, 2) := by decide +kernel
theorem dX6_addChamber_19 : decode cX6_addChamber 19 = .ok (.invokestatic 38, 3) := by decide +kernel
theorem dX6_addChamber_22 : decode cX6_addChamber 22 = .ok (.ifCond .eq 13, 3) := by decide +kernel
theorem dX6_addChamber_25 : decode cX6_addChamber 25 = .ok (.iload_n 3, 1) := by decide +kernel
theorem dX6_addChamber_26 : decode cX6_addChamber 26 = .ok (.iconst 0, 1) := by decide +kernel
theorem dX6_addChamber_27 : decode cX6_addChamber 27 = .ok (.bipush 20, 2) := by decide +kernel
theorem dX6_addChamber_29 : decode cX6_addChamber 29 = .ok (.invokestatic 38, 3) := by decide +kernel
theorem dX6_addChamber_32 : decode cX6_addChamber 32 = .ok (.ifCond .ne 9, 3) := by decide +kernel
theorem dX6_addChamber_35 : decode cX6_addChamber 35 = .ok (.aload_n 0, 1) := by decide +kernel
theorem dX6_addChamber_36 : decode cX6_addChamber 36 = .ok (.iconst 1, 1) := by decide +kernel
theorem dX6_addChamber_37 : decode cX6_addChamber 37 = .ok (.invokevirtual 43, 3) := by decide +kernel
theorem dX6_addChamber_40 : decode cX6_addChamber 40 = .ok (.ireturn, 1) := by decide +kernel
theorem dX6_addChamber_41 : decode cX6_addChamber 41 = .ok (.aload_n 0, 1) := by decide +kernel
theorem dX6_addChamber_42 : decode cX6_addChamber 42 = .ok (.getfield 9, 3) := by decide +kernel
theorem dX6_addChamber_45 : decode cX6_addChamber 45 = .ok (.bipush 12, 2) := by decide +kernel
theorem dX6_addChamber_47 : decode cX6_addChamber 47 = .ok (.if_icmp .ne 9, 3) := by decide +kernel
theorem dX6_addChamber_50 : decode cX6_addChamber 50 = .ok (.aload_n 0, 1) := by decide +kernel
theorem dX6_addChamber_51 : decode cX6_addChamber 51 = .ok (.iconst 2, 1) := by decide +kernel
theorem dX6_addChamber_52 : decode cX6_addChamber 52 = .ok (.invokevirtual 43, 3) := by decide +kernel
theorem dX6_addChamber_55 : decode cX6_addChamber 55 = .ok (.ireturn, 1) := by decide +kernel
theorem dX6_addChamber_56 : decode cX6_addChamber 56 = .ok (.iconst 5, 1) := by decide +kernel
theorem dX6_addChamber_57 : decode cX6_addChamber 57 = .ok (.newarray .int, 2) := by decide +kernel
theorem dX6_addChamber_59 : decode cX6_addChamber 59 = .ok (.dup, 1) := by decide +kernel
theorem dX6_addChamber_60 : decode cX6_addChamber 60 = .ok (.iconst 0, 1) := by decide +kernel
theorem dX6_addChamber_61 : decode cX6_addChamber 61 = .ok (.iload_n 1, 1) := by decide +kernel
theorem dX6_addChamber_62 : decode cX6_addChamber 62 = .ok (.iastore, 1) := by decide +kernel
theorem dX6_addChamber_63 : decode cX6_addChamber 63 = .ok (.dup, 1) := by decide +kernel
theorem dX6_addChamber_64 : decode cX6_addChamber 64 = .ok (.iconst 1, 1) := by decide +kernel
theorem dX6_addChamber_65 : decode cX6_addChamber 65 = .ok (.iload_n 2, 1) := by decide +kernel
theorem dX6_addChamber_66 : decode cX6_addChamber 66 = .ok (.iastore, 1) := by decide +kernel
theorem dX6_addChamber_67 : decode cX6_addChamber 67 = .ok (.dup, 1) := by decide +kernel
theorem dX6_addChamber_68 : decode cX6_addChamber 68 = .ok (.iconst 2, 1) := by decide +kernel
theorem dX6_addChamber_69 : decode cX6_addChamber 69 = .ok (.iload_n 3, 1) := by decide +kernel
theorem dX6_addChamber_70 : decode cX6_addChamber 70 = .ok (.iastore, 1) := by decide +kernel
theorem dX6_addChamber_71 : decode cX6_addChamber 71 = .ok (.dup, 1) := by decide +kernel
theorem dX6_addChamber_72 : decode cX6_addChamber 72 = .ok (.iconst 3, 1) := by decide +kernel
theorem dX6_addChamber_73 : decode cX6_addChamber 73 = .ok (.iconst 0, 1) := by decide +kernel
theorem dX6_addChamber_74 : decode cX6_addChamber 74 = .ok (.iastore, 1) := by decide +kernel
theorem dX6_addChamber_75 : decode cX6_addChamber 75 = .ok (.dup, 1) := by decide +kernel
theorem dX6_addChamber_76 : decode cX6_addChamber 76 = .ok (.iconst 4, 1) := by decide +kernel
theorem dX6_addChamber_77 : decode cX6_addChamber 77 = .ok (.iconst 0, 1) := by decide +kernel
theorem dX6_addChamber_78 : decode cX6_addChamber 78 = .ok (.iastore, 1) := by decide +kernel
theorem dX6_addChamber_79 : decode cX6_addChamber 79 = .ok (.astore 4, 2) := by decide +kernel
theorem dX6_addChamber_81 : decode cX6_addChamber 81 = .ok (.aload 4, 2) := by decide +kernel
theorem dX6_addChamber_83 : decode cX6_addChamber 83 = .ok (.iconst 0, 1) := by decide +kernel
theorem dX6_addChamber_84 : decode cX6_addChamber 84 = .ok (.aload_n 0, 1) := by decide +kernel
theorem dX6_addChamber_85 : decode cX6_addChamber 85 = .ok (.getfield 16, 3) := by decide +kernel
theorem dX6_addChamber_88 : decode cX6_addChamber 88 = .ok (.iconst 5, 1) := by decide +kernel
theorem dX6_addChamber_89 : decode cX6_addChamber 89 = .ok (.aload_n 0, 1) := by decide +kernel
theorem dX6_addChamber_90 : decode cX6_addChamber 90 = .ok (.getfield 9, 3) := by decide +kernel
theorem dX6_addChamber_93 : decode cX6_addChamber 93 = .ok (.imul, 1) := by decide +kernel
theorem dX6_addChamber_94 : decode cX6_addChamber 94 = .ok (.iconst 5, 1) := by decide +kernel
theorem dX6_addChamber_95 : decode cX6_addChamber 95 = .ok (.invokestatic 47, 3) := by decide +kernel
theorem dX6_addChamber_98 : decode cX6_addChamber 98 = .ok (.aload_n 0, 1) := by decide +kernel
theorem dX6_addChamber_99 : decode cX6_addChamber 99 = .ok (.dup, 1) := by decide +kernel
theorem dX6_addChamber_100 : decode cX6_addChamber 100 = .ok (.getfield 9, 3) := by decide +kernel
theorem dX6_addChamber_103 : decode cX6_addChamber 103 = .ok (.iconst 1, 1) := by decide +kernel
theorem dX6_addChamber_104 : decode cX6_addChamber 104 = .ok (.iadd, 1) := by decide +kernel
theorem dX6_addChamber_105 : decode cX6_addChamber 105 = .ok (.putfield 9, 3) := by decide +kernel
theorem dX6_addChamber_108 : decode cX6_addChamber 108 = .ok (.aload_n 0, 1) := by decide +kernel
theorem dX6_addChamber_109 : decode cX6_addChamber 109 = .ok (.getfield 9, 3) := by decide +kernel
theorem dX6_addChamber_112 : decode cX6_addChamber 112 = .ok (.iconst 1, 1) := by decide +kernel
theorem dX6_addChamber_113 : decode cX6_addChamber 113 = .ok (.isub, 1) := by decide +kernel
theorem dX6_addChamber_114 : decode cX6_addChamber 114 = .ok (.ireturn, 1) := by decide +kernel
set_option maxRecDepth 20000 in
theorem ggX6_addPassage_X6_isChamber : GoodIn wsX6_addPassage wsX6_isChamber := goodIn_r _ [13, 14, 15, 16, 12, 17, 22, 23, 24, 25, 26, 27, 28, 29, 30, 31] (by decide +kernel) (by decide +kernel)
set_option maxRecDepth 20000 in
theorem gX6_addPassage_X6_isChamber : GoodIn wsX6_addPassage (wsV RX6 53 RX6 yX6_isChamber wsX6_isChamber) := goodIn_app (goodIn_of _ (by decide +kernel)) ggX6_addPassage_X6_isChamber
set_option maxRecDepth 20000 in
theorem ggX6_addPassage_X6_no : GoodIn wsX6_addPassage wsX6_no := goodIn_r _ [21, 1, 22, 23, 24, 25, 26, 27, 28, 29, 30, 31] (by decide +kernel) (by decide +kernel)
set_option maxRecDepth 20000 in
theorem gX6_addPassage_X6_no : GoodIn wsX6_addPassage (wsV RX6 43 RX6 yX6_no wsX6_no) := goodIn_app (goodIn_of _ (by decide +kernel)) ggX6_addPassage_X6_no
set_option maxRecDepth 20000 in
theorem ggX6_addPassage_X6_isIn : GoodIn wsX6_addPassage wsX6_isIn := goodIn_r _ [17] (by decide +kernel) (by decide +kernel)
set_option maxRecDepth 20000 in
theorem gX6_addPassage_X6_isIn : GoodIn wsX6_addPassage (va_wsS RX6 38 yX6_isIn wsX6_isIn) := goodIn_app (goodIn_of _ (by decide +kernel)) ggX6_addPassage_X6_isIn
theorem dX6_addPassage_0 : decode cX6_addPassage 0 = .ok (.aload_n 0, 1) := by decide +kernel
theorem dX6_addPassage_1 : decode cX6_addPassage 1 = .ok (.iconst 0, 1) := by decide +kernel
theorem dX6_addPassage_2 : decode cX6_addPassage 2 = .ok (.putfield 35, 3) := by decide +kernel
theorem dX6_addPassage_5 : decode cX6_addPassage 5 = .ok (.aload_n 0, 1) := by decide +kernel
theorem dX6_addPassage_6 : decode cX6_addPassage 6 = .ok (.iload_n 1, 1) := by decide +kernel
theorem dX6_addPassage_7 : decode cX6_addPassage 7 = .ok (.invokevirtual 53, 3) := by decide +kernel
theorem dX6_addPassage_10 : decode cX6_addPassage 10 = .ok (.ifCond .eq 11, 3) := by decide +kernel
theorem dX6_addPassage_13 : decode cX6_addPassage 13 = .ok (.aload_n 0, 1) := by decide +kernel
theorem dX6_addPassage_14 : decode cX6_addPassage 14 = .ok (.iload_n 2, 1) := by decide +kernel
theorem dX6_addPassage_15 : decode cX6_addPassage 15 = .ok (.invokevirtual 53, 3) := by decide +kernel
theorem dX6_addPassage_18 : decode cX6_addPassage 18 = .ok (.ifCond .ne 9, 3) := by decide +kernel
theorem dX6_addPassage_21 : decode cX6_addPassage 21 = .ok (.aload_n 0, 1) := by decide +kernel
theorem dX6_addPassage_22 : decode cX6_addPassage 22 = .ok (.iconst 1, 1) := by decide +kernel
theorem dX6_addPassage_23 : decode cX6_addPassage 23 = .ok (.invokevirtual 43, 3) := by decide +kernel
theorem dX6_addPassage_26 : decode cX6_addPassage 26 = .ok (.ireturn, 1) := by decide +kernel
theorem dX6_addPassage_27 : decode cX6_addPassage 27 = .ok (.iload_n 1, 1) := by decide +kernel
theorem dX6_addPassage_28 : decode cX6_addPassage 28 = .ok (.iload_n 2, 1) := by decide +kernel
theorem dX6_addPassage_29 : decode cX6_addPassage 29 = .ok (.if_icmp .eq 24, 3) := by decide +kernel
theorem dX6_addPassage_32 : decode cX6_addPassage 32 = .ok (.iload_n 3, 1) := by decide +kernel
theorem dX6_addPassage_33 : decode cX6_addPassage 33 = .ok (.iconst 1, 1) := by decide +kernel
theorem dX6_addPassage_34 : decode cX6_addPassage 34 = .ok (.bipush 9, 2) := by decide +kernel
theorem dX6_addPassage_36 : decode cX6_addPassage 36 = .ok (.invokestatic 38, 3) := by decide +kernel
theorem dX6_addPassage_39 : decode cX6_addPassage 39 = .ok (.ifCond .eq 14, 3) := by decide +kernel
theorem dX6_addPassage_42 : decode cX6_addPassage 42 = .ok (.iload 4, 2) := by decide +kernel
theorem dX6_addPassage_44 : decode cX6_addPassage 44 = .ok (.iconst 0, 1) := by decide +kernel
theorem dX6_addPassage_45 : decode cX6_addPassage 45 = .ok (.bipush 9, 2) := by decide +kernel
theorem dX6_addPassage_47 : decode cX6_addPassage 47 = .ok (.invokestatic 38, 3) := by decide +kernel
theorem dX6_addPassage_50 : decode cX6_addPassage 50 = .ok (.ifCond .ne 9, 3) := by decide +kernel
theorem dX6_addPassage_53 : decode cX6_addPassage 53 = .ok (.aload_n 0, 1) := by decide +kernel
theorem dX6_addPassage_54 : decode cX6_addPassage 54 = .ok (.iconst 2, 1) := by decide +kernel
theorem dX6_addPassage_55 : decode cX6_addPassage 55 = .ok (.invokevirtual 43, 3) := by decide +kernel
theorem dX6_addPassage_58 : decode cX6_addPassage 58 = .ok (.ireturn, 1) := by decide +kernel
theorem dX6_addPassage_59 : decode cX6_addPassage 59 = .ok (.aload_n 0, 1) := by decide +kernel
theorem dX6_addPassage_60 : decode cX6_addPassage 60 = .ok (.getfield 57, 3) := by decide +kernel
theorem dX6_addPassage_63 : decode cX6_addPassage 63 = .ok (.bipush 18, 2) := by decide +kernel
theorem dX6_addPassage_65 : decode cX6_addPassage 65 = .ok (.if_icmp .ne 9, 3) := by decide +kernel
theorem dX6_addPassage_68 : decode cX6_addPassage 68 = .ok (.aload_n 0, 1) := by decide +kernel
theorem dX6_addPassage_69 : decode cX6_addPassage 69 = .ok (.iconst 3, 1) := by decide +kernel
theorem dX6_addPassage_70 : decode cX6_addPassage 70 = .ok (.invokevirtual 43, 3) := by decide +kernel
theorem dX6_addPassage_73 : decode cX6_addPassage 73 = .ok (.ireturn, 1) := by decide +kernel
theorem dX6_addPassage_74 : decode cX6_addPassage 74 = .ok (.iconst 4, 1) := by decide +kernel
theorem dX6_addPassage_75 : decode cX6_addPassage 75 = .ok (.newarray .int, 2) := by decide +kernel
theorem dX6_addPassage_77 : decode cX6_addPassage 77 = .ok (.dup, 1) := by decide +kernel
theorem dX6_addPassage_78 : decode cX6_addPassage 78 = .ok (.iconst 0, 1) := by decide +kernel
theorem dX6_addPassage_79 : decode cX6_addPassage 79 = .ok (.iload_n 1, 1) := by decide +kernel
theorem dX6_addPassage_80 : decode cX6_addPassage 80 = .ok (.iastore, 1) := by decide +kernel
theorem dX6_addPassage_81 : decode cX6_addPassage 81 = .ok (.dup, 1) := by decide +kernel
theorem dX6_addPassage_82 : decode cX6_addPassage 82 = .ok (.iconst 1, 1) := by decide +kernel
theorem dX6_addPassage_83 : decode cX6_addPassage 83 = .ok (.iload_n 2, 1) := by decide +kernel
theorem dX6_addPassage_84 : decode cX6_addPassage 84 = .ok (.iastore, 1) := by decide +kernel
theorem dX6_addPassage_85 : decode cX6_addPassage 85 = .ok (.dup, 1) := by decide +kernel
theorem dX6_addPassage_86 : decode cX6_addPassage 86 = .ok (.iconst 2, 1) := by decide +kernel
theorem dX6_addPassage_87 : decode cX6_addPassage 87 = .ok (.iload_n 3, 1) := by decide +kernel
theorem dX6_addPassage_88 : decode cX6_addPassage 88 = .ok (.iastore, 1) := by decide +kernel
theorem dX6_addPassage_89 : decode cX6_addPassage 89 = .ok (.dup, 1) := by decide +kernel
theorem dX6_addPassage_90 : decode cX6_addPassage 90 = .ok (.iconst 3, 1) := by decide +kernel
theorem dX6_addPassage_91 : decode cX6_addPassage 91 = .ok (.iload 4, 2) := by decide +kernel
theorem dX6_addPassage_93 : decode cX6_addPassage 93 = .ok (.iastore, 1) := by decide +kernel
theorem dX6_addPassage_94 : decode cX6_addPassage 94 = .ok (.astore 5, 2) := by decide +kernel
theorem dX6_addPassage_96 : decode cX6_addPassage 96 = .ok (.aload 5, 2) := by decide +kernel
theorem dX6_addPassage_98 : decode cX6_addPassage 98 = .ok (.iconst 0, 1) := by decide +kernel
theorem dX6_addPassage_99 : decode cX6_addPassage 99 = .ok (.aload_n 0, 1) := by decide +kernel
theorem dX6_addPassage_100 : decode cX6_addPassage 100 = .ok (.getfield 20, 3) := by decide +kernel
theorem dX6_addPassage_103 : decode cX6_addPassage 103 = .ok (.iconst 4, 1) := by decide +kernel
theorem dX6_addPassage_104 : decode cX6_addPassage 104 = .ok (.aload_n 0, 1) := by decide +kernel
theorem dX6_addPassage_105 : decode cX6_addPassage 105 = .ok (.getfield 57, 3) := by decide +kernel
theorem dX6_addPassage_108 : decode cX6_addPassage 108 = .ok (.imul, 1) := by decide +kernel
theorem dX6_addPassage_109 : decode cX6_addPassage 109 = .ok (.iconst 4, 1) := by decide +kernel
theorem dX6_addPassage_110 : decode cX6_addPassage 110 = .ok (.invokestatic 47, 3) := by decide +kernel
theorem dX6_addPassage_113 : decode cX6_addPassage 113 = .ok (.aload_n 0, 1) := by decide +kernel
theorem dX6_addPassage_114 : decode cX6_addPassage 114 = .ok (.dup, 1) := by decide +kernel
theorem dX6_addPassage_115 : decode cX6_addPassage 115 = .ok (.getfield 57, 3) := by decide +kernel
theorem dX6_addPassage_118 : decode cX6_addPassage 118 = .ok (.iconst 1, 1) := by decide +kernel
theorem dX6_addPassage_119 : decode cX6_addPassage 119 = .ok (.iadd, 1) := by decide +kernel
theorem dX6_addPassage_120 : decode cX6_addPassage 120 = .ok (.putfield 57, 3) := by decide +kernel
theorem dX6_addPassage_123 : decode cX6_addPassage 123 = .ok (.aload_n 0, 1) := by decide +kernel
theorem dX6_addPassage_124 : decode cX6_addPassage 124 = .ok (.getfield 57, 3) := by decide +kernel
theorem dX6_addPassage_127 : decode cX6_addPassage 127 = .ok (.iconst 1, 1) := by decide +kernel
theorem dX6_addPassage_128 : decode cX6_addPassage 128 = .ok (.isub, 1) := by decide +kernel
theorem dX6_addPassage_129 : decode cX6_addPassage 129 = .ok (.ireturn, 1) := by decide +kernel
set_option maxRecDepth 20000 in
theorem ggX6_setWater_X6_isIn : GoodIn wsX6_setWater wsX6_isIn := goodIn_r _ [6] (by decide +kernel) (by decide +kernel)
set_option maxRecDepth 20000 in
theorem gX6_setWater_X6_isIn : GoodIn wsX6_setWater (va_wsS RX6 38 yX6_isIn wsX6_isIn) := goodIn_app (goodIn_of _ (by decide +kernel)) ggX6_setWater_X6_isIn
set_option maxRecDepth 20000 in
theorem ggX6_setWater_X6_no : GoodIn wsX6_setWater wsX6_no := goodIn_r _ [10, 1, 11, 12, 13, 14, 15, 16, 17, 18, 19, 20] (by decide +kernel) (by decide +kernel)
set_option maxRecDepth 20000 in
theorem gX6_setWater_X6_no : GoodIn wsX6_setWater (wsV RX6 43 RX6 yX6_no wsX6_no) := goodIn_app (goodIn_of _ (by decide +kernel)) ggX6_setWater_X6_no
theorem dX6_setWater_0 : decode cX6_setWater 0 = .ok (.aload_n 0, 1) := by decide +kernel
theorem dX6_setWater_1 : decode cX6_setWater 1 = .ok (.iconst 0, 1) := by decide +kernel
theorem dX6_setWater_2 : decode cX6_setWater 2 = .ok (.putfield 35, 3) := by decide +kernel
theorem dX6_setWater_5 : decode cX6_setWater 5 = .ok (.iload_n 1, 1) := by decide +kernel
theorem dX6_setWater_6 : decode cX6_setWater 6 = .ok (.iconst 0, 1) := by decide +kernel
theorem dX6_setWater_7 : decode cX6_setWater 7 = .ok (.bipush 30, 2) := by decide +kernel
theorem dX6_setWater_9 : decode cX6_setWater 9 = .ok (.invokestatic 38, 3) := by decide +kernel
theorem dX6_setWater_12 : decode cX6_setWater 12 = .ok (.ifCond .ne 9, 3) := by decide +kernel
theorem dX6_setWater_15 : decode cX6_setWater 15 = .ok (.aload_n 0, 1) := by decide +kernel
theorem dX6_setWater_16 : decode cX6_setWater 16 = .ok (.iconst 1, 1) := by decide +kernel
theorem dX6_setWater_17 : decode cX6_setWater 17 = .ok (.invokevirtual 43, 3) := by decide +kernel
theorem dX6_setWater_20 : decode cX6_setWater 20 = .ok (.ireturn, 1) := by decide +kernel
theorem dX6_setWater_21 : decode cX6_setWater 21 = .ok (.aload_n 0, 1) := by decide +kernel
theorem dX6_setWater_22 : decode cX6_setWater 22 = .ok (.getfield 60, 3) := by decide +kernel
theorem dX6_setWater_25 : decode cX6_setWater 25 = .ok (.istore_n 2, 1) := by decide +kernel
theorem dX6_setWater_26 : decode cX6_setWater 26 = .ok (.aload_n 0, 1) := by decide +kernel
theorem dX6_setWater_27 : decode cX6_setWater 27 = .ok (.iload_n 1, 1) := by decide +kernel
theorem dX6_setWater_28 : decode cX6_setWater 28 = .ok (.putfield 60, 3) := by decide +kernel
theorem dX6_setWater_31 : decode cX6_setWater 31 = .ok (.iload_n 2, 1) := by decide +kernel
theorem dX6_setWater_32 : decode cX6_setWater 32 = .ok (.ireturn, 1) := by decide +kernel
set_option maxRecDepth 20000 in
theorem ggX6_setBats_X6_isChamber : GoodIn wsX6_setBats wsX6_isChamber := goodIn_r _ [7, 8, 9, 10, 6, 11, 16, 17, 18, 19, 20, 21, 22, 23, 24, 25] (by decide +kernel) (by decide +kernel)
set_option maxRecDepth 20000 in
theorem gX6_setBats_X6_isChamber : GoodIn wsX6_setBats (wsV RX6 53 RX6 yX6_isChamber wsX6_isChamber) := goodIn_app (goodIn_of _ (by decide +kernel)) ggX6_setBats_X6_isChamber
set_option maxRecDepth 20000 in
theorem ggX6_setBats_X6_no : GoodIn wsX6_setBats wsX6_no := goodIn_r _ [15, 1, 16, 17, 18, 19, 20, 21, 22, 23, 24, 25] (by decide +kernel) (by decide +kernel)
set_option maxRecDepth 20000 in
theorem gX6_setBats_X6_no : GoodIn wsX6_setBats (wsV RX6 43 RX6 yX6_no wsX6_no) := goodIn_app (goodIn_of _ (by decide +kernel)) ggX6_setBats_X6_no
set_option maxRecDepth 20000 in
theorem ggX6_setBats_X6_isIn : GoodIn wsX6_setBats wsX6_isIn := goodIn_r _ [11] (by decide +kernel) (by decide +kernel)
set_option maxRecDepth 20000 in
theorem gX6_setBats_X6_isIn : GoodIn wsX6_setBats (va_wsS RX6 38 yX6_isIn wsX6_isIn) := goodIn_app (goodIn_of _ (by decide +kernel)) ggX6_setBats_X6_isIn
theorem dX6_setBats_0 : decode cX6_setBats 0 = .ok (.aload_n 0, 1) := by decide +kernel
theorem dX6_setBats_1 : decode cX6_setBats 1 = .ok (.iconst 0, 1) := by decide +kernel
theorem dX6_setBats_2 : decode cX6_setBats 2 = .ok (.putfield 35, 3) := by decide +kernel
theorem dX6_setBats_5 : decode cX6_setBats 5 = .ok (.aload_n 0, 1) := by decide +kernel
theorem dX6_setBats_6 : decode cX6_setBats 6 = .ok (.iload_n 1, 1) := by decide +kernel
theorem dX6_setBats_7 : decode cX6_setBats 7 = .ok (.invokevirtual 53, 3) := by decide +kernel
theorem dX6_setBats_10 : decode cX6_setBats 10 = .ok (.ifCond .ne 9, 3) := by decide +kernel
theorem dX6_setBats_13 : decode cX6_setBats 13 = .ok (.aload_n 0, 1) := by decide +kernel
theorem dX6_setBats_14 : decode cX6_setBats 14 = .ok (.iconst 1, 1) := by decide +kernel
theorem dX6_setBats_15 : decode cX6_setBats 15 = .ok (.invokevirtual 43, 3) := by decide +kernel
theorem dX6_setBats_18 : decode cX6_setBats 18 = .ok (.ireturn, 1) := by decide +kernel
theorem dX6_setBats_19 : decode cX6_setBats 19 = .ok (.iload_n 2, 1) := by decide +kernel
theorem dX6_setBats_20 : decode cX6_setBats 20 = .ok (.iconst 0, 1) := by decide +kernel
theorem dX6_setBats_21 : decode cX6_setBats 21 = .ok (.bipush 20, 2) := by decide +kernel
theorem dX6_setBats_23 : decode cX6_setBats 23 = .ok (.invokestatic 38, 3) := by decide +kernel
theorem dX6_setBats_26 : decode cX6_setBats 26 = .ok (.ifCond .ne 9, 3) := by decide +kernel
theorem dX6_setBats_29 : decode cX6_setBats 29 = .ok (.aload_n 0, 1) := by decide +kernel
theorem dX6_setBats_30 : decode cX6_setBats 30 = .ok (.iconst 2, 1) := by decide +kernel
theorem dX6_setBats_31 : decode cX6_setBats 31 = .ok (.invokevirtual 43, 3) := by decide +kernel
theorem dX6_setBats_34 : decode cX6_setBats 34 = .ok (.ireturn, 1) := by decide +kernel
theorem dX6_setBats_35 : decode cX6_setBats 35 = .ok (.aload_n 0, 1) := by decide +kernel
theorem dX6_setBats_36 : decode cX6_setBats 36 = .ok (.getfield 16, 3) := by decide +kernel
theorem dX6_setBats_39 : decode cX6_setBats 39 = .ok (.iconst 5, 1) := by decide +kernel
theorem dX6_setBats_40 : decode cX6_setBats 40 = .ok (.iload_n 1, 1) := by decide +kernel
theorem dX6_setBats_41 : decode cX6_setBats 41 = .ok (.imul, 1) := by decide +kernel
theorem dX6_setBats_42 : decode cX6_setBats 42 = .ok (.iconst 2, 1) := by decide +kernel
theorem dX6_setBats_43 : decode cX6_setBats 43 = .ok (.iadd, 1) := by decide +kernel
theorem dX6_setBats_44 : decode cX6_setBats 44 = .ok (.iaload, 1) := by decide +kernel
theorem dX6_setBats_45 : decode cX6_setBats 45 = .ok (.istore_n 3, 1) := by decide +kernel
theorem dX6_setBats_46 : decode cX6_setBats 46 = .ok (.aload_n 0, 1) := by decide +kernel
theorem dX6_setBats_47 : decode cX6_setBats 47 = .ok (.getfield 16, 3) := by decide +kernel
theorem dX6_setBats_50 : decode cX6_setBats 50 = .ok (.iconst 5, 1) := by decide +kernel
theorem dX6_setBats_51 : decode cX6_setBats 51 = .ok (.iload_n 1, 1) := by decide +kernel
theorem dX6_setBats_52 : decode cX6_setBats 52 = .ok (.imul, 1) := by decide +kernel
theorem dX6_setBats_53 : decode cX6_setBats 53 = .ok (.iconst 2, 1) := by decide +kernel
theorem dX6_setBats_54 : decode cX6_setBats 54 = .ok (.iadd, 1) := by decide +kernel
theorem dX6_setBats_55 : decode cX6_setBats 55 = .ok (.iload_n 2, 1) := by decide +kernel
theorem dX6_setBats_56 : decode cX6_setBats 56 = .ok (.iastore, 1) := by decide +kernel
theorem dX6_setBats_57 : decode cX6_setBats 57 = .ok (.iload_n 3, 1) := by decide +kernel
theorem dX6_setBats_58 : decode cX6_setBats 58 = .ok (.ireturn, 1) := by decide +kernel
set_option maxRecDepth 20000 in
theorem ggX6_setClapper_X6_isChamber : GoodIn wsX6_setClapper wsX6_isChamber := goodIn_r _ [7, 8, 9, 10, 6, 11, 16, 17, 18, 19, 20, 21, 22, 23, 24, 25] (by decide +kernel) (by decide +kernel)
set_option maxRecDepth 20000 in
theorem gX6_setClapper_X6_isChamber : GoodIn wsX6_setClapper (wsV RX6 53 RX6 yX6_isChamber wsX6_isChamber) := goodIn_app (goodIn_of _ (by decide +kernel)) ggX6_setClapper_X6_isChamber
set_option maxRecDepth 20000 in
theorem ggX6_setClapper_X6_no : GoodIn wsX6_setClapper wsX6_no := goodIn_r _ [15, 1, 16, 17, 18, 19, 20, 21, 22, 23, 24, 25] (by decide +kernel) (by decide +kernel)
set_option maxRecDepth 20000 in
theorem gX6_setClapper_X6_no : GoodIn wsX6_setClapper (wsV RX6 43 RX6 yX6_no wsX6_no) := goodIn_app (goodIn_of _ (by decide +kernel)) ggX6_setClapper_X6_no
set_option maxRecDepth 20000 in
theorem ggX6_setClapper_X6_isIn : GoodIn wsX6_setClapper wsX6_isIn := goodIn_r _ [11] (by decide +kernel) (by decide +kernel)
set_option maxRecDepth 20000 in
theorem gX6_setClapper_X6_isIn : GoodIn wsX6_setClapper (va_wsS RX6 38 yX6_isIn wsX6_isIn) := goodIn_app (goodIn_of _ (by decide +kernel)) ggX6_setClapper_X6_isIn
theorem dX6_setClapper_0 : decode cX6_setClapper 0 = .ok (.aload_n 0, 1) := by decide +kernel
theorem dX6_setClapper_1 : decode cX6_setClapper 1 = .ok (.iconst 0, 1) := by decide +kernel
theorem dX6_setClapper_2 : decode cX6_setClapper 2 = .ok (.putfield 35, 3) := by decide +kernel
theorem dX6_setClapper_5 : decode cX6_setClapper 5 = .ok (.aload_n 0, 1) := by decide +kernel
theorem dX6_setClapper_6 : decode cX6_setClapper 6 = .ok (.iload_n 1, 1) := by decide +kernel
theorem dX6_setClapper_7 : decode cX6_setClapper 7 = .ok (.invokevirtual 53, 3) := by decide +kernel
theorem dX6_setClapper_10 : decode cX6_setClapper 10 = .ok (.ifCond .ne 9, 3) := by decide +kernel
theorem dX6_setClapper_13 : decode cX6_setClapper 13 = .ok (.aload_n 0, 1) := by decide +kernel
theorem dX6_setClapper_14 : decode cX6_setClapper 14 = .ok (.iconst 1, 1) := by decide +kernel
theorem dX6_setClapper_15 : decode cX6_setClapper 15 = .ok (.invokevirtual 43, 3) := by decide +kernel
theorem dX6_setClapper_18 : decode cX6_setClapper 18 = .ok (.ireturn, 1) := by decide +kernel
theorem dX6_setClapper_19 : decode cX6_setClapper 19 = .ok (.iload_n 1, 1) := by decide +kernel
theorem dX6_setClapper_20 : decode cX6_setClapper 20 = .ok (.ifCond .eq 23, 3) := by decide +kernel
theorem dX6_setClapper_23 : decode cX6_setClapper 23 = .ok (.iload_n 2, 1) := by decide +kernel
theorem dX6_setClapper_24 : decode cX6_setClapper 24 = .ok (.iconst 0, 1) := by decide +kernel
theorem dX6_setClapper_25 : decode cX6_setClapper 25 = .ok (.bipush 9, 2) := by decide +kernel
theorem dX6_setClapper_27 : decode cX6_setClapper 27 = .ok (.invokestatic 38, 3) := by decide +kernel
theorem dX6_setClapper_30 : decode cX6_setClapper 30 = .ok (.ifCond .eq 13, 3) := by decide +kernel
theorem dX6_setClapper_33 : decode cX6_setClapper 33 = .ok (.iload_n 3, 1) := by decide +kernel
theorem dX6_setClapper_34 : decode cX6_setClapper 34 = .ok (.iconst 0, 1) := by decide +kernel
theorem dX6_setClapper_35 : decode cX6_setClapper 35 = .ok (.bipush 20, 2) := by decide +kernel
theorem dX6_setClapper_37 : decode cX6_setClapper 37 = .ok (.invokestatic 38, 3) := by decide +kernel
theorem dX6_setClapper_40 : decode cX6_setClapper 40 = .ok (.ifCond .ne 9, 3) := by decide +kernel
theorem dX6_setClapper_43 : decode cX6_setClapper 43 = .ok (.aload_n 0, 1) := by decide +kernel
theorem dX6_setClapper_44 : decode cX6_setClapper 44 = .ok (.iconst 2, 1) := by decide +kernel
theorem dX6_setClapper_45 : decode cX6_setClapper 45 = .ok (.invokevirtual 43, 3) := by decide +kernel
theorem dX6_setClapper_48 : decode cX6_setClapper 48 = .ok (.ireturn, 1) := by decide +kernel
theorem dX6_setClapper_49 : decode cX6_setClapper 49 = .ok (.aload_n 0, 1) := by decide +kernel
theorem dX6_setClapper_50 : decode cX6_setClapper 50 = .ok (.getfield 16, 3) := by decide +kernel
theorem dX6_setClapper_53 : decode cX6_setClapper 53 = .ok (.iconst 5, 1) := by decide +kernel
theorem dX6_setClapper_54 : decode cX6_setClapper 54 = .ok (.iload_n 1, 1) := by decide +kernel
theorem dX6_setClapper_55 : decode cX6_setClapper 55 = .ok (.imul, 1) := by decide +kernel
theorem dX6_setClapper_56 : decode cX6_setClapper 56 = .ok (.iconst 3, 1) := by decide +kernel
theorem dX6_setClapper_57 : decode cX6_setClapper 57 = .ok (.iadd, 1) := by decide +kernel
theorem dX6_setClapper_58 : decode cX6_setClapper 58 = .ok (.iaload, 1) := by decide +kernel
theorem dX6_setClapper_59 : decode cX6_setClapper 59 = .ok (.istore 4, 2) := by decide +kernel
theorem dX6_setClapper_61 : decode cX6_setClapper 61 = .ok (.aload_n 0, 1) := by decide +kernel
theorem dX6_setClapper_62 : decode cX6_setClapper 62 = .ok (.getfield 16, 3) := by decide +kernel
theorem dX6_setClapper_65 : decode cX6_setClapper 65 = .ok (.iconst 5, 1) := by decide +kernel
theorem dX6_setClapper_66 : decode cX6_setClapper 66 = .ok (.iload_n 1, 1) := by decide +kernel
theorem dX6_setClapper_67 : decode cX6_setClapper 67 = .ok (.imul, 1) := by decide +kernel
theorem dX6_setClapper_68 : decode cX6_setClapper 68 = .ok (.iconst 3, 1) := by decide +kernel
theorem dX6_setClapper_69 : decode cX6_setClapper 69 = .ok (.iadd, 1) := by decide +kernel
theorem dX6_setClapper_70 : decode cX6_setClapper 70 = .ok (.iload_n 2, 1) := by decide +kernel
theorem dX6_setClapper_71 : decode cX6_setClapper 71 = .ok (.iastore, 1) := by decide +kernel
theorem dX6_setClapper_72 : decode cX6_setClapper 72 = .ok (.aload_n 0, 1) := by decide +kernel
theorem dX6_setClapper_73 : decode cX6_setClapper 73 = .ok (.getfield 16, 3) := by decide +kernel
theorem dX6_setClapper_76 : decode cX6_setClapper 76 = .ok (.iconst 5, 1) := by decide +kernel
theorem dX6_setClapper_77 : decode cX6_setClapper 77 = .ok (.iload_n 1, 1) := by decide +kernel
theorem dX6_setClapper_78 : decode cX6_setClapper 78 = .ok (.imul, 1) := by decide +kernel
theorem dX6_setClapper_79 : decode cX6_setClapper 79 = .ok (.iconst 4, 1) := by decide +kernel
theorem dX6_setClapper_80 : decode cX6_setClapper 80 = .ok (.iadd, 1) := by decide +kernel
theorem dX6_setClapper_81 : decode cX6_setClapper 81 = .ok (.iload_n 2, 1) := by decide +kernel
theorem dX6_setClapper_82 : decode cX6_setClapper 82 = .ok (.ifCond .ne 7, 3) := by decide +kernel
theorem dX6_setClapper_85 : decode cX6_setClapper 85 = .ok (.iconst 0, 1) := by decide +kernel
theorem dX6_setClapper_86 : decode cX6_setClapper 86 = .ok (.goto 4, 3) := by decide +kernel
theorem dX6_setClapper_89 : decode cX6_setClapper 89 = .ok (.iload_n 3, 1) := by decide +kernel
theorem dX6_setClapper_90 : decode cX6_setClapper 90 = .ok (.iastore, 1) := by decide +kernel
theorem dX6_setClapper_91 : decode cX6_setClapper 91 = .ok (.iload 4, 2) := by decide +kernel
theorem dX6_setClapper_93 : decode cX6_setClapper 93 = .ok (.ireturn, 1) := by decide +kernel
set_option maxRecDepth 20000 in
theorem ggX6_setEar_X6_isIn : GoodIn wsX6_setEar wsX6_isIn := goodIn_r _ [6] (by decide +kernel) (by decide +kernel)
set_option maxRecDepth 20000 in
theorem gX6_setEar_X6_isIn : GoodIn wsX6_setEar (va_wsS RX6 38 yX6_isIn wsX6_isIn) := goodIn_app (goodIn_of _ (by decide +kernel)) ggX6_setEar_X6_isIn
set_option maxRecDepth 20000 in
theorem ggX6_setEar_X6_no : GoodIn wsX6_setEar wsX6_no := goodIn_r _ [10, 1, 11, 12, 13, 14, 15, 16, 17, 18, 19, 20] (by decide +kernel) (by decide +kernel)
set_option maxRecDepth 20000 in
theorem gX6_setEar_X6_no : GoodIn wsX6_setEar (wsV RX6 43 RX6 yX6_no wsX6_no) := goodIn_app (goodIn_of _ (by decide +kernel)) ggX6_setEar_X6_no
theorem dX6_setEar_0 : decode cX6_setEar 0 = .ok (.aload_n 0, 1) := by decide +kernel
theorem dX6_setEar_1 : decode cX6_setEar 1 = .ok (.iconst 0, 1) := by decide +kernel
theorem dX6_setEar_2 : decode cX6_setEar 2 = .ok (.putfield 35, 3) := by decide +kernel
theorem dX6_setEar_5 : decode cX6_setEar 5 = .ok (.iload_n 1, 1) := by decide +kernel
theorem dX6_setEar_6 : decode cX6_setEar 6 = .ok (.iconst 1, 1) := by decide +kernel
theorem dX6_setEar_7 : decode cX6_setEar 7 = .ok (.bipush 50, 2) := by decide +kernel
theorem dX6_setEar_9 : decode cX6_setEar 9 = .ok (.invokestatic 38, 3) := by decide +kernel
theorem dX6_setEar_12 : decode cX6_setEar 12 = .ok (.ifCond .ne 9, 3) := by decide +kernel
theorem dX6_setEar_15 : decode cX6_setEar 15 = .ok (.aload_n 0, 1) := by decide +kernel
theorem dX6_setEar_16 : decode cX6_setEar 16 = .ok (.iconst 1, 1) := by decide +kernel
theorem dX6_setEar_17 : decode cX6_setEar 17 = .ok (.invokevirtual 43, 3) := by decide +kernel
theorem dX6_setEar_20 : decode cX6_setEar 20 = .ok (.ireturn, 1) := by decide +kernel
theorem dX6_setEar_21 : decode cX6_setEar 21 = .ok (.aload_n 0, 1) := by decide +kernel
theorem dX6_setEar_22 : decode cX6_setEar 22 = .ok (.getfield 13, 3) := by decide +kernel
theorem dX6_setEar_25 : decode cX6_setEar 25 = .ok (.istore_n 2, 1) := by decide +kernel
theorem dX6_setEar_26 : decode cX6_setEar 26 = .ok (.aload_n 0, 1) := by decide +kernel
theorem dX6_setEar_27 : decode cX6_setEar 27 = .ok (.iload_n 1, 1) := by decide +kernel
theorem dX6_setEar_28 : decode cX6_setEar 28 = .ok (.putfield 13, 3) := by decide +kernel
theorem dX6_setEar_31 : decode cX6_setEar 31 = .ok (.iload_n 2, 1) := by decide +kernel
theorem dX6_setEar_32 : decode cX6_setEar 32 = .ok (.ireturn, 1) := by decide +kernel
set_option maxRecDepth 20000 in
theorem ggX6_chamberTold_X6_touches : GoodIn wsX6_chamberTold wsX6_touches := goodIn_r _ [8, 9, 14, 15, 16, 17, 18, 19, 20, 21, 22, 23] (by decide +kernel) (by decide +kernel)
set_option maxRecDepth 20000 in
theorem gX6_chamberTold_X6_touches : GoodIn wsX6_chamberTold (wsV RX6 63 RX6 yX6_touches wsX6_touches) := goodIn_app (goodIn_of _ (by decide +kernel)) ggX6_chamberTold_X6_touches
set_option maxRecDepth 20000 in
theorem ggX6_chamberTold_X6_isOpen : GoodIn wsX6_chamberTold wsX6_isOpen := goodIn_r _ [13, 1, 9, 14, 15, 16, 17, 18, 19, 20, 21, 22, 23] (by decide +kernel) (by decide +kernel)
set_option maxRecDepth 20000 in
theorem gX6_chamberTold_X6_isOpen : GoodIn wsX6_chamberTold (wsV RX6 67 RX6 yX6_isOpen wsX6_isOpen) := goodIn_app (goodIn_of _ (by decide +kernel)) ggX6_chamberTold_X6_isOpen
theorem dX6_chamberTold_0 : decode cX6_chamberTold 0 = .ok (.iload_n 2, 1) := by decide +kernel
theorem dX6_chamberTold_1 : decode cX6_chamberTold 1 = .ok (.iconst 5, 1) := by decide +kernel
theorem dX6_chamberTold_2 : decode cX6_chamberTold 2 = .ok (.if_icmp .ge 14, 3) := by decide +kernel
theorem dX6_chamberTold_5 : decode cX6_chamberTold 5 = .ok (.aload_n 0, 1) := by decide +kernel
theorem dX6_chamberTold_6 : decode cX6_chamberTold 6 = .ok (.getfield 16, 3) := by decide +kernel
theorem dX6_chamberTold_9 : decode cX6_chamberTold 9 = .ok (.iconst 5, 1) := by decide +kernel
theorem dX6_chamberTold_10 : decode cX6_chamberTold 10 = .ok (.iload_n 1, 1) := by decide +kernel
theorem dX6_chamberTold_11 : decode cX6_chamberTold 11 = .ok (.imul, 1) := by decide +kernel
theorem dX6_chamberTold_12 : decode cX6_chamberTold 12 = .ok (.iload_n 2, 1) := by decide +kernel
theorem dX6_chamberTold_13 : decode cX6_chamberTold 13 = .ok (.iadd, 1) := by decide +kernel
theorem dX6_chamberTold_14 : decode cX6_chamberTold 14 = .ok (.iaload, 1) := by decide +kernel
theorem dX6_chamberTold_15 : decode cX6_chamberTold 15 = .ok (.ireturn, 1) := by decide +kernel
theorem dX6_chamberTold_16 : decode cX6_chamberTold 16 = .ok (.iconst 0, 1) := by decide +kernel
theorem dX6_chamberTold_17 : decode cX6_chamberTold 17 = .ok (.istore_n 3, 1) := by decide +kernel
theorem dX6_chamberTold_18 : decode cX6_chamberTold 18 = .ok (.iconst 0, 1) := by decide +kernel
theorem dX6_chamberTold_19 : decode cX6_chamberTold 19 = .ok (.istore 4, 2) := by decide +kernel
theorem dX6_chamberTold_21 : decode cX6_chamberTold 21 = .ok (.iload 4, 2) := by decide +kernel
theorem dX6_chamberTold_23 : decode cX6_chamberTold 23 = .ok (.aload_n 0, 1) := by decide +kernel
theorem dX6_chamberTold_24 : decode cX6_chamberTold 24 = .ok (.getfield 57, 3) := by decide +kernel
theorem dX6_chamberTold_27 : decode cX6_chamberTold 27 = .ok (.if_icmp .ge 45, 3) := by decide +kernel
theorem dX6_chamberTold_30 : decode cX6_chamberTold 30 = .ok (.iload_n 3, 1) := by decide +kernel
theorem dX6_chamberTold_31 : decode cX6_chamberTold 31 = .ok (.aload_n 0, 1) := by decide +kernel
theorem dX6_chamberTold_32 : decode cX6_chamberTold 32 = .ok (.iload 4, 2) := by decide +kernel
theorem dX6_chamberTold_34 : decode cX6_chamberTold 34 = .ok (.iload_n 1, 1) := by decide +kernel
theorem dX6_chamberTold_35 : decode cX6_chamberTold 35 = .ok (.invokevirtual 63, 3) := by decide +kernel
theorem dX6_chamberTold_38 : decode cX6_chamberTold 38 = .ok (.ifCond .eq 25, 3) := by decide +kernel
theorem dX6_chamberTold_41 : decode cX6_chamberTold 41 = .ok (.iload_n 2, 1) := by decide +kernel
theorem dX6_chamberTold_42 : decode cX6_chamberTold 42 = .ok (.iconst 5, 1) := by decide +kernel
theorem dX6_chamberTold_43 : decode cX6_chamberTold 43 = .ok (.if_icmp .eq 16, 3) := by decide +kernel
theorem dX6_chamberTold_46 : decode cX6_chamberTold 46 = .ok (.aload_n 0, 1) := by decide +kernel
theorem dX6_chamberTold_47 : decode cX6_chamberTold 47 = .ok (.iload 4, 2) := by decide +kernel
theorem dX6_chamberTold_49 : decode cX6_chamberTold 49 = .ok (.aload_n 0, 1) := by decide +kernel
theorem dX6_chamberTold_50 : decode cX6_chamberTold 50 = .ok (.getfield 60, 3) := by decide +kernel
theorem dX6_chamberTold_53 : decode cX6_chamberTold 53 = .ok (.invokevirtual 67, 3) := by decide +kernel
theorem dX6_chamberTold_56 : decode cX6_chamberTold 56 = .ok (.ifCond .eq 7, 3) := by decide +kernel
theorem dX6_chamberTold_59 : decode cX6_chamberTold 59 = .ok (.iconst 1, 1) := by decide +kernel
theorem dX6_chamberTold_60 : decode cX6_chamberTold 60 = .ok (.goto 4, 3) := by decide +kernel
theorem dX6_chamberTold_63 : decode cX6_chamberTold 63 = .ok (.iconst 0, 1) := by decide +kernel
theorem dX6_chamberTold_64 : decode cX6_chamberTold 64 = .ok (.iadd, 1) := by decide +kernel
theorem dX6_chamberTold_65 : decode cX6_chamberTold 65 = .ok (.istore_n 3, 1) := by decide +kernel
theorem dX6_chamberTold_66 : decode cX6_chamberTold 66 = .ok (.iinc 4 1, 3) := by decide +kernel
theorem dX6_chamberTold_69 : decode cX6_chamberTold 69 = .ok (.goto (-48), 3) := by decide +kernel
theorem dX6_chamberTold_72 : decode cX6_chamberTold 72 = .ok (.iload_n 3, 1) := by decide +kernel
theorem dX6_chamberTold_73 : decode cX6_chamberTold 73 = .ok (.ireturn, 1) := by decide +kernel
set_option maxRecDepth 20000 in
theorem ggX6_chamber_X6_isChamber : GoodIn wsX6_chamber wsX6_isChamber := goodIn_r _ [6, 7, 8, 9, 5, 10, 31, 32, 33, 34, 35, 36, 37, 38, 39, 40] (by decide +kernel) (by decide +kernel)
set_option maxRecDepth 20000 in
theorem gX6_chamber_X6_isChamber : GoodIn wsX6_chamber (wsV RX6 53 RX6 yX6_isChamber wsX6_isChamber) := goodIn_app (goodIn_of _ (by decide +kernel)) ggX6_chamber_X6_isChamber
set_option maxRecDepth 20000 in
theorem ggX6_chamber_X6_isIn : GoodIn wsX6_chamber wsX6_isIn := goodIn_r _ [10] (by decide +kernel) (by decide +kernel)
set_option maxRecDepth 20000 in
theorem gX6_chamber_X6_isIn : GoodIn wsX6_chamber (va_wsS RX6 38 yX6_isIn wsX6_isIn) := goodIn_app (goodIn_of _ (by decide +kernel)) ggX6_chamber_X6_isIn
set_option maxRecDepth 20000 in
theorem ggX6_chamber_X6_chamberTold : GoodIn wsX6_chamber wsX6_chamberTold := goodIn_r _ [14, 15, 16, 17, 18, 19, 20, 5, 21, 22, 23, 24, 25, 26, 31, 32, 33, 34, 35, 36, 37, 38, 39, 40] (by decide +kernel) (by decide +kernel)
set_option maxRecDepth 20000 in
theorem gX6_chamber_X6_chamberTold : GoodIn wsX6_chamber (wsV RX6 70 RX6 yX6_chamberTold wsX6_chamberTold) := goodIn_app (goodIn_of _ (by decide +kernel)) ggX6_chamber_X6_chamberTold
set_option maxRecDepth 20000 in
theorem ggX6_chamber_X6_no : GoodIn wsX6_chamber wsX6_no := goodIn_r _ [30, 1, 31, 32, 33, 34, 35, 36, 37, 38, 39, 40] (by decide +kernel) (by decide +kernel)
set_option maxRecDepth 20000 in
theorem gX6_chamber_X6_no : GoodIn wsX6_chamber (wsV RX6 43 RX6 yX6_no wsX6_no) := goodIn_app (goodIn_of _ (by decide +kernel)) ggX6_chamber_X6_no
theorem dX6_chamber_0 : decode cX6_chamber 0 = .ok (.aload_n 0, 1) := by decide +kernel
theorem dX6_chamber_1 : decode cX6_chamber 1 = .ok (.iconst 0, 1) := by decide +kernel
theorem dX6_chamber_2 : decode cX6_chamber 2 = .ok (.putfield 35, 3) := by decide +kernel
theorem dX6_chamber_5 : decode cX6_chamber 5 = .ok (.aload_n 0, 1) := by decide +kernel
theorem dX6_chamber_6 : decode cX6_chamber 6 = .ok (.iload_n 1, 1) := by decide +kernel
theorem dX6_chamber_7 : decode cX6_chamber 7 = .ok (.invokevirtual 53, 3) := by decide +kernel
theorem dX6_chamber_10 : decode cX6_chamber 10 = .ok (.ifCond .eq 22, 3) := by decide +kernel
theorem dX6_chamber_13 : decode cX6_chamber 13 = .ok (.iload_n 2, 1) := by decide +kernel
theorem dX6_chamber_14 : decode cX6_chamber 14 = .ok (.iconst 0, 1) := by decide +kernel
theorem dX6_chamber_15 : decode cX6_chamber 15 = .ok (.bipush 6, 2) := by decide +kernel
theorem dX6_chamber_17 : decode cX6_chamber 17 = .ok (.invokestatic 38, 3) := by decide +kernel
theorem dX6_chamber_20 : decode cX6_chamber 20 = .ok (.ifCond .eq 12, 3) := by decide +kernel
theorem dX6_chamber_23 : decode cX6_chamber 23 = .ok (.aload_n 0, 1) := by decide +kernel
theorem dX6_chamber_24 : decode cX6_chamber 24 = .ok (.iload_n 1, 1) := by decide +kernel
theorem dX6_chamber_25 : decode cX6_chamber 25 = .ok (.iload_n 2, 1) := by decide +kernel
theorem dX6_chamber_26 : decode cX6_chamber 26 = .ok (.invokevirtual 70, 3) := by decide +kernel
theorem dX6_chamber_29 : decode cX6_chamber 29 = .ok (.goto 8, 3) := by decide +kernel
theorem dX6_chamber_32 : decode cX6_chamber 32 = .ok (.aload_n 0, 1) := by decide +kernel
theorem dX6_chamber_33 : decode cX6_chamber 33 = .ok (.iconst 1, 1) := by decide +kernel
theorem dX6_chamber_34 : decode cX6_chamber 34 = .ok (.invokevirtual 43, 3) := by decide +kernel
theorem dX6_chamber_37 : decode cX6_chamber 37 = .ok (.ireturn, 1) := by decide +kernel
set_option maxRecDepth 20000 in
theorem ggX6_passageTold_X6_isOpen : GoodIn wsX6_passageTold wsX6_isOpen := goodIn_r _ [7, 8, 1, 9, 10, 11, 12, 13, 14, 15, 16, 17, 18] (by decide +kernel) (by decide +kernel)
set_option maxRecDepth 20000 in
theorem gX6_passageTold_X6_isOpen : GoodIn wsX6_passageTold (wsV RX6 67 RX6 yX6_isOpen wsX6_isOpen) := goodIn_app (goodIn_of _ (by decide +kernel)) ggX6_passageTold_X6_isOpen
theorem dX6_passageTold_0 : decode cX6_passageTold 0 = .ok (.iload_n 2, 1) := by decide +kernel
theorem dX6_passageTold_1 : decode cX6_passageTold 1 = .ok (.iconst 4, 1) := by decide +kernel
theorem dX6_passageTold_2 : decode cX6_passageTold 2 = .ok (.if_icmp .ge 14, 3) := by decide +kernel
theorem dX6_passageTold_5 : decode cX6_passageTold 5 = .ok (.aload_n 0, 1) := by decide +kernel
theorem dX6_passageTold_6 : decode cX6_passageTold 6 = .ok (.getfield 20, 3) := by decide +kernel
theorem dX6_passageTold_9 : decode cX6_passageTold 9 = .ok (.iconst 4, 1) := by decide +kernel
theorem dX6_passageTold_10 : decode cX6_passageTold 10 = .ok (.iload_n 1, 1) := by decide +kernel
theorem dX6_passageTold_11 : decode cX6_passageTold 11 = .ok (.imul, 1) := by decide +kernel
theorem dX6_passageTold_12 : decode cX6_passageTold 12 = .ok (.iload_n 2, 1) := by decide +kernel
theorem dX6_passageTold_13 : decode cX6_passageTold 13 = .ok (.iadd, 1) := by decide +kernel
theorem dX6_passageTold_14 : decode cX6_passageTold 14 = .ok (.iaload, 1) := by decide +kernel
theorem dX6_passageTold_15 : decode cX6_passageTold 15 = .ok (.ireturn, 1) := by decide +kernel
theorem dX6_passageTold_16 : decode cX6_passageTold 16 = .ok (.aload_n 0, 1) := by decide +kernel
theorem dX6_passageTold_17 : decode cX6_passageTold 17 = .ok (.iload_n 1, 1) := by decide +kernel
theorem dX6_passageTold_18 : decode cX6_passageTold 18 = .ok (.aload_n 0, 1) := by decide +kernel
theorem dX6_passageTold_19 : decode cX6_passageTold 19 = .ok (.getfield 60, 3) := by decide +kernel
theorem dX6_passageTold_22 : decode cX6_passageTold 22 = .ok (.invokevirtual 67, 3) := by decide +kernel
theorem dX6_passageTold_25 : decode cX6_passageTold 25 = .ok (.ifCond .eq 7, 3) := by decide +kernel
theorem dX6_passageTold_28 : decode cX6_passageTold 28 = .ok (.iconst 1, 1) := by decide +kernel
theorem dX6_passageTold_29 : decode cX6_passageTold 29 = .ok (.goto 4, 3) := by decide +kernel
theorem dX6_passageTold_32 : decode cX6_passageTold 32 = .ok (.iconst 0, 1) := by decide +kernel
theorem dX6_passageTold_33 : decode cX6_passageTold 33 = .ok (.ireturn, 1) := by decide +kernel
set_option maxRecDepth 20000 in
theorem ggX6_passage_X6_isIn : GoodIn wsX6_passage wsX6_isIn := goodIn_r _ [6] (by decide +kernel) (by decide +kernel)
set_option maxRecDepth 20000 in
theorem gX6_passage_X6_isIn : GoodIn wsX6_passage (va_wsS RX6 38 yX6_isIn wsX6_isIn) := goodIn_app (goodIn_of _ (by decide +kernel)) ggX6_passage_X6_isIn
set_option maxRecDepth 20000 in
theorem ggX6_passage_X6_passageTold : GoodIn wsX6_passage wsX6_passageTold := goodIn_r _ [10, 11, 12, 13, 14, 15, 5, 16, 17, 22, 23, 24, 25, 26, 27, 28, 29, 30, 31] (by decide +kernel) (by decide +kernel)
set_option maxRecDepth 20000 in
theorem gX6_passage_X6_passageTold : GoodIn wsX6_passage (wsV RX6 74 RX6 yX6_passageTold wsX6_passageTold) := goodIn_app (goodIn_of _ (by decide +kernel)) ggX6_passage_X6_passageTold
set_option maxRecDepth 20000 in
theorem ggX6_passage_X6_no : GoodIn wsX6_passage wsX6_no := goodIn_r _ [21, 1, 22, 23, 24, 25, 26, 27, 28, 29, 30, 31] (by decide +kernel) (by decide +kernel)
set_option maxRecDepth 20000 in
theorem gX6_passage_X6_no : GoodIn wsX6_passage (wsV RX6 43 RX6 yX6_no wsX6_no) := goodIn_app (goodIn_of _ (by decide +kernel)) ggX6_passage_X6_no
theorem dX6_passage_0 : decode cX6_passage 0 = .ok (.aload_n 0, 1) := by decide +kernel
theorem dX6_passage_1 : decode cX6_passage 1 = .ok (.iconst 0, 1) := by decide +kernel
theorem dX6_passage_2 : decode cX6_passage 2 = .ok (.putfield 35, 3) := by decide +kernel
theorem dX6_passage_5 : decode cX6_passage 5 = .ok (.iload_n 1, 1) := by decide +kernel
theorem dX6_passage_6 : decode cX6_passage 6 = .ok (.iconst 0, 1) := by decide +kernel
theorem dX6_passage_7 : decode cX6_passage 7 = .ok (.aload_n 0, 1) := by decide +kernel
theorem dX6_passage_8 : decode cX6_passage 8 = .ok (.getfield 57, 3) := by decide +kernel
theorem dX6_passage_11 : decode cX6_passage 11 = .ok (.iconst 1, 1) := by decide +kernel
theorem dX6_passage_12 : decode cX6_passage 12 = .ok (.isub, 1) := by decide +kernel
theorem dX6_passage_13 : decode cX6_passage 13 = .ok (.invokestatic 38, 3) := by decide +kernel
theorem dX6_passage_16 : decode cX6_passage 16 = .ok (.ifCond .eq 21, 3) := by decide +kernel
theorem dX6_passage_19 : decode cX6_passage 19 = .ok (.iload_n 2, 1) := by decide +kernel
theorem dX6_passage_20 : decode cX6_passage 20 = .ok (.iconst 0, 1) := by decide +kernel
theorem dX6_passage_21 : decode cX6_passage 21 = .ok (.iconst 4, 1) := by decide +kernel
theorem dX6_passage_22 : decode cX6_passage 22 = .ok (.invokestatic 38, 3) := by decide +kernel
theorem dX6_passage_25 : decode cX6_passage 25 = .ok (.ifCond .eq 12, 3) := by decide +kernel
theorem dX6_passage_28 : decode cX6_passage 28 = .ok (.aload_n 0, 1) := by decide +kernel
theorem dX6_passage_29 : decode cX6_passage 29 = .ok (.iload_n 1, 1) := by decide +kernel
theorem dX6_passage_30 : decode cX6_passage 30 = .ok (.iload_n 2, 1) := by decide +kernel
theorem dX6_passage_31 : decode cX6_passage 31 = .ok (.invokevirtual 74, 3) := by decide +kernel
theorem dX6_passage_34 : decode cX6_passage 34 = .ok (.goto 8, 3) := by decide +kernel
theorem dX6_passage_37 : decode cX6_passage 37 = .ok (.aload_n 0, 1) := by decide +kernel
theorem dX6_passage_38 : decode cX6_passage 38 = .ok (.iconst 1, 1) := by decide +kernel
theorem dX6_passage_39 : decode cX6_passage 39 = .ok (.invokevirtual 43, 3) := by decide +kernel
theorem dX6_passage_42 : decode cX6_passage 42 = .ok (.ireturn, 1) := by decide +kernel
set_option maxRecDepth 20000 in
theorem ggX6_say_X6_isWord : GoodIn wsX6_say wsX6_isWord := goodIn_r _ [7, 8, 9, 10, 6, 11] (by decide +kernel) (by decide +kernel)
set_option maxRecDepth 20000 in
theorem gX6_say_X6_isWord : GoodIn wsX6_say (va_wsS RX6 77 yX6_isWord wsX6_isWord) := goodIn_app (goodIn_of _ (by decide +kernel)) ggX6_say_X6_isWord
set_option maxRecDepth 20000 in
theorem ggX6_say_X6_isIn : GoodIn wsX6_say wsX6_isIn := goodIn_r _ [11] (by decide +kernel) (by decide +kernel)
set_option maxRecDepth 20000 in
theorem gX6_say_X6_isIn : GoodIn wsX6_say (va_wsS RX6 38 yX6_isIn wsX6_isIn) := goodIn_app (goodIn_of _ (by decide +kernel)) ggX6_say_X6_isIn
set_option maxRecDepth 20000 in
theorem ggX6_say_X6_no : GoodIn wsX6_say wsX6_no := goodIn_r _ [15, 1, 78, 79, 80, 81, 82, 83, 84, 85, 86, 87] (by decide +kernel) (by decide +kernel)
set_option maxRecDepth 20000 in
theorem gX6_say_X6_no : GoodIn wsX6_say (wsV RX6 43 RX6 yX6_no wsX6_no) := goodIn_app (goodIn_of _ (by decide +kernel)) ggX6_say_X6_no
set_option maxRecDepth 20000 in
theorem ggX6_say_X5_say : GoodIn wsX6_say wsX5_say := goodIn_r _ [20, 21, 22, 23, 24, 25, 26, 27, 28, 29, 30, 31, 32, 33, 34, 35, 36, 37, 38, 39, 19, 40, 41, 42, 43, 44, 45, 46, 47, 48, 49, 50, 51, 52, 53, 54, 55, 56, 57, 58, 59, 60, 61, 62, 63, 64, 65, 66, 6, 67, 68, 69, 70, 71, 72, 73, 74, 75, 76, 77, 88, 89, 90, 91, 92, 93, 94, 95, 96, 97, 98, 99, 100, 101, 102, 103, 104, 105, 106, 107, 108, 78, 79, 80, 81, 82, 83, 84, 85, 86, 87] (by decide +kernel) (by decide +kernel)
set_option maxRecDepth 20000 in
theorem gX6_say_X5_say : GoodIn wsX6_say (wsV RX6 80 RX5 yX5_say wsX5_say) := goodIn_app (goodIn_of _ (by decide +kernel)) ggX6_say_X5_say
theorem dX6_say_0 : decode cX6_say 0 = .ok (.aload_n 0, 1) := by decide +kernel
theorem dX6_say_1 : decode cX6_say 1 = .ok (.iconst 0, 1) := by decide +kernel
theorem dX6_say_2 : decode cX6_say 2 = .ok (.putfield 35, 3) := by decide +kernel
theorem dX6_say_5 : decode cX6_say 5 = .ok (.iload_n 1, 1) := by decide +kernel
theorem dX6_say_6 : decode cX6_say 6 = .ok (.invokestatic 77, 3) := by decide +kernel
theorem dX6_say_9 : decode cX6_say 9 = .ok (.ifCond .eq 13, 3) := by decide +kernel
theorem dX6_say_12 : decode cX6_say 12 = .ok (.iload_n 2, 1) := by decide +kernel
theorem dX6_say_13 : decode cX6_say 13 = .ok (.iconst 1, 1) := by decide +kernel
theorem dX6_say_14 : decode cX6_say 14 = .ok (.bipush 20, 2) := by decide +kernel
theorem dX6_say_16 : decode cX6_say 16 = .ok (.invokestatic 38, 3) := by decide +kernel
theorem dX6_say_19 : decode cX6_say 19 = .ok (.ifCond .ne 9, 3) := by decide +kernel
theorem dX6_say_22 : decode cX6_say 22 = .ok (.aload_n 0, 1) := by decide +kernel
theorem dX6_say_23 : decode cX6_say 23 = .ok (.iconst 1, 1) := by decide +kernel
theorem dX6_say_24 : decode cX6_say 24 = .ok (.invokevirtual 43, 3) := by decide +kernel
theorem dX6_say_27 : decode cX6_say 27 = .ok (.ireturn, 1) := by decide +kernel
theorem dX6_say_28 : decode cX6_say 28 = .ok (.aload_n 0, 1) := by decide +kernel
theorem dX6_say_29 : decode cX6_say 29 = .ok (.getfield 28, 3) := by decide +kernel
theorem dX6_say_32 : decode cX6_say 32 = .ok (.iload_n 1, 1) := by decide +kernel
theorem dX6_say_33 : decode cX6_say 33 = .ok (.iload_n 2, 1) := by decide +kernel
theorem dX6_say_34 : decode cX6_say 34 = .ok (.invokevirtual 80, 3) := by decide +kernel
theorem dX6_say_37 : decode cX6_say 37 = .ok (.aload_n 0, 1) := by decide +kernel
theorem dX6_say_38 : decode cX6_say 38 = .ok (.dup, 1) := by decide +kernel
theorem dX6_say_39 : decode cX6_say 39 = .ok (.getfield 84, 3) := by decide +kernel
theorem dX6_say_42 : decode cX6_say 42 = .ok (.iconst 1, 1) := by decide +kernel
theorem dX6_say_43 : decode cX6_say 43 = .ok (.iadd, 1) := by decide +kernel
theorem dX6_say_44 : decode cX6_say 44 = .ok (.putfield 84, 3) := by decide +kernel
theorem dX6_say_47 : decode cX6_say 47 = .ok (.aload_n 0, 1) := by decide +kernel
theorem dX6_say_48 : decode cX6_say 48 = .ok (.getfield 28, 3) := by decide +kernel
theorem dX6_say_51 : decode cX6_say 51 = .ok (.getfield 87, 3) := by decide +kernel
theorem dX6_say_54 : decode cX6_say 54 = .ok (.ireturn, 1) := by decide +kernel
set_option maxRecDepth 20000 in
theorem ggX6_heard_X6_isIn : GoodIn wsX6_heard wsX6_isIn := goodIn_r _ [6] (by decide +kernel) (by decide +kernel)
set_option maxRecDepth 20000 in
theorem gX6_heard_X6_isIn : GoodIn wsX6_heard (va_wsS RX6 38 yX6_isIn wsX6_isIn) := goodIn_app (goodIn_of _ (by decide +kernel)) ggX6_heard_X6_isIn
set_option maxRecDepth 20000 in
theorem ggX6_heard_X6_no : GoodIn wsX6_heard wsX6_no := goodIn_r _ [10, 1, 11, 12, 13, 14, 15, 16, 17, 18, 19, 20] (by decide +kernel) (by decide +kernel)
set_option maxRecDepth 20000 in
theorem gX6_heard_X6_no : GoodIn wsX6_heard (wsV RX6 43 RX6 yX6_no wsX6_no) := goodIn_app (goodIn_of _ (by decide +kernel)) ggX6_heard_X6_no
theorem dX6_heard_0 : decode cX6_heard 0 = .ok (.aload_n 0, 1) := by decide +kernel
theorem dX6_heard_1 : decode cX6_heard 1 = .ok (.iconst 0, 1) := by decide +kernel
theorem dX6_heard_2 : decode cX6_heard 2 = .ok (.putfield 35, 3) := by decide +kernel
theorem dX6_heard_5 : decode cX6_heard 5 = .ok (.iload_n 1, 1) := by decide +kernel
theorem dX6_heard_6 : decode cX6_heard 6 = .ok (.iconst 0, 1) := by decide +kernel
theorem dX6_heard_7 : decode cX6_heard 7 = .ok (.aload_n 0, 1) := by decide +kernel
theorem dX6_heard_8 : decode cX6_heard 8 = .ok (.getfield 28, 3) := by decide +kernel
theorem dX6_heard_11 : decode cX6_heard 11 = .ok (.getfield 90, 3) := by decide +kernel
theorem dX6_heard_14 : decode cX6_heard 14 = .ok (.iconst 1, 1) := by decide +kernel
theorem dX6_heard_15 : decode cX6_heard 15 = .ok (.isub, 1) := by decide +kernel
theorem dX6_heard_16 : decode cX6_heard 16 = .ok (.invokestatic 38, 3) := by decide +kernel
theorem dX6_heard_19 : decode cX6_heard 19 = .ok (.ifCond .eq 28, 3) := by decide +kernel
theorem dX6_heard_22 : decode cX6_heard 22 = .ok (.iload_n 2, 1) := by decide +kernel
theorem dX6_heard_23 : decode cX6_heard 23 = .ok (.iconst 0, 1) := by decide +kernel
theorem dX6_heard_24 : decode cX6_heard 24 = .ok (.iconst 4, 1) := by decide +kernel
theorem dX6_heard_25 : decode cX6_heard 25 = .ok (.invokestatic 38, 3) := by decide +kernel
theorem dX6_heard_28 : decode cX6_heard 28 = .ok (.ifCond .eq 19, 3) := by decide +kernel
theorem dX6_heard_31 : decode cX6_heard 31 = .ok (.aload_n 0, 1) := by decide +kernel
theorem dX6_heard_32 : decode cX6_heard 32 = .ok (.getfield 28, 3) := by decide +kernel
theorem dX6_heard_35 : decode cX6_heard 35 = .ok (.getfield 93, 3) := by decide +kernel
theorem dX6_heard_38 : decode cX6_heard 38 = .ok (.iconst 5, 1) := by decide +kernel
theorem dX6_heard_39 : decode cX6_heard 39 = .ok (.iload_n 1, 1) := by decide +kernel
theorem dX6_heard_40 : decode cX6_heard 40 = .ok (.imul, 1) := by decide +kernel
theorem dX6_heard_41 : decode cX6_heard 41 = .ok (.iload_n 2, 1) := by decide +kernel
theorem dX6_heard_42 : decode cX6_heard 42 = .ok (.iadd, 1) := by decide +kernel
theorem dX6_heard_43 : decode cX6_heard 43 = .ok (.iaload, 1) := by decide +kernel
theorem dX6_heard_44 : decode cX6_heard 44 = .ok (.goto 8, 3) := by decide +kernel
theorem dX6_heard_47 : decode cX6_heard 47 = .ok (.aload_n 0, 1) := by decide +kernel
theorem dX6_heard_48 : decode cX6_heard 48 = .ok (.iconst 1, 1) := by decide +kernel
theorem dX6_heard_49 : decode cX6_heard 49 = .ok (.invokevirtual 43, 3) := by decide +kernel
theorem dX6_heard_52 : decode cX6_heard 52 = .ok (.ireturn, 1) := by decide +kernel
set_option maxRecDepth 20000 in
theorem ggX6_inOrder_X5_isInOrder : GoodIn wsX6_inOrder wsX5_isInOrder := goodIn_r _ [7, 8, 9, 20, 21, 22, 23, 24, 25, 26, 27, 28, 29, 30, 31, 32, 33, 34, 35, 36, 37, 38, 39, 40] (by decide +kernel) (by decide +kernel)
set_option maxRecDepth 20000 in
theorem gX6_inOrder_X5_isInOrder : GoodIn wsX6_inOrder (wsV RX6 96 RX5 yX5_isInOrder wsX5_isInOrder) := goodIn_app (goodIn_of _ (by decide +kernel)) ggX6_inOrder_X5_isInOrder
theorem dX6_inOrder_0 : decode cX6_inOrder 0 = .ok (.aload_n 0, 1) := by decide +kernel
theorem dX6_inOrder_1 : decode cX6_inOrder 1 = .ok (.iconst 0, 1) := by decide +kernel
theorem dX6_inOrder_2 : decode cX6_inOrder 2 = .ok (.putfield 35, 3) := by decide +kernel
theorem dX6_inOrder_5 : decode cX6_inOrder 5 = .ok (.aload_n 0, 1) := by decide +kernel
theorem dX6_inOrder_6 : decode cX6_inOrder 6 = .ok (.getfield 28, 3) := by decide +kernel
theorem dX6_inOrder_9 : decode cX6_inOrder 9 = .ok (.invokevirtual 96, 3) := by decide +kernel
theorem dX6_inOrder_12 : decode cX6_inOrder 12 = .ok (.ireturn, 1) := by decide +kernel
set_option maxRecDepth 20000 in
theorem ggX6_first_X6_isIn : GoodIn wsX6_first wsX6_isIn := goodIn_r _ [6] (by decide +kernel) (by decide +kernel)
set_option maxRecDepth 20000 in
theorem gX6_first_X6_isIn : GoodIn wsX6_first (va_wsS RX6 38 yX6_isIn wsX6_isIn) := goodIn_app (goodIn_of _ (by decide +kernel)) ggX6_first_X6_isIn
set_option maxRecDepth 20000 in
theorem ggX6_first_X6_no : GoodIn wsX6_first wsX6_no := goodIn_r _ [10, 1, 11, 12, 13, 14, 15, 16, 17, 18, 19, 20] (by decide +kernel) (by decide +kernel)
set_option maxRecDepth 20000 in
theorem gX6_first_X6_no : GoodIn wsX6_first (wsV RX6 43 RX6 yX6_no wsX6_no) := goodIn_app (goodIn_of _ (by decide +kernel)) ggX6_first_X6_no
theorem dX6_first_0 : decode cX6_first 0 = .ok (.aload_n 0, 1) := by decide +kernel
theorem dX6_first_1 : decode cX6_first 1 = .ok (.iconst 0, 1) := by decide +kernel
theorem dX6_first_2 : decode cX6_first 2 = .ok (.putfield 35, 3) := by decide +kernel
theorem dX6_first_5 : decode cX6_first 5 = .ok (.iload_n 1, 1) := by decide +kernel
theorem dX6_first_6 : decode cX6_first 6 = .ok (.iconst 0, 1) := by decide +kernel
theorem dX6_first_7 : decode cX6_first 7 = .ok (.aload_n 0, 1) := by decide +kernel
theorem dX6_first_8 : decode cX6_first 8 = .ok (.getfield 28, 3) := by decide +kernel
theorem dX6_first_11 : decode cX6_first 11 = .ok (.getfield 100, 3) := by decide +kernel
theorem dX6_first_14 : decode cX6_first 14 = .ok (.iconst 1, 1) := by decide +kernel
theorem dX6_first_15 : decode cX6_first 15 = .ok (.isub, 1) := by decide +kernel
theorem dX6_first_16 : decode cX6_first 16 = .ok (.invokestatic 38, 3) := by decide +kernel
theorem dX6_first_19 : decode cX6_first 19 = .ok (.ifCond .eq 15, 3) := by decide +kernel
theorem dX6_first_22 : decode cX6_first 22 = .ok (.aload_n 0, 1) := by decide +kernel
theorem dX6_first_23 : decode cX6_first 23 = .ok (.getfield 28, 3) := by decide +kernel
theorem dX6_first_26 : decode cX6_first 26 = .ok (.getfield 103, 3) := by decide +kernel
theorem dX6_first_29 : decode cX6_first 29 = .ok (.iload_n 1, 1) := by decide +kernel
theorem dX6_first_30 : decode cX6_first 30 = .ok (.iaload, 1) := by decide +kernel
theorem dX6_first_31 : decode cX6_first 31 = .ok (.goto 8, 3) := by decide +kernel
theorem dX6_first_34 : decode cX6_first 34 = .ok (.aload_n 0, 1) := by decide +kernel
theorem dX6_first_35 : decode cX6_first 35 = .ok (.iconst 1, 1) := by decide +kernel
theorem dX6_first_36 : decode cX6_first 36 = .ok (.invokevirtual 43, 3) := by decide +kernel
theorem dX6_first_39 : decode cX6_first 39 = .ok (.ireturn, 1) := by decide +kernel
set_option maxRecDepth 20000 in
theorem ggX6_counted_X6_isOpen : GoodIn wsX6_counted wsX6_isOpen := goodIn_r _ [12, 4, 13, 14, 15, 16, 17, 18, 19, 20, 21, 22, 23] (by decide +kernel) (by decide +kernel)
set_option maxRecDepth 20000 in
theorem gX6_counted_X6_isOpen : GoodIn wsX6_counted (wsV RX6 67 RX6 yX6_isOpen wsX6_isOpen) := goodIn_app (goodIn_of _ (by decide +kernel)) ggX6_counted_X6_isOpen
theorem dX6_counted_0 : decode cX6_counted 0 = .ok (.iconst 0, 1) := by decide +kernel
theorem dX6_counted_1 : decode cX6_counted 1 = .ok (.istore_n 2, 1) := by decide +kernel
theorem dX6_counted_2 : decode cX6_counted 2 = .ok (.iload_n 1, 1) := by decide +kernel
theorem dX6_counted_3 : decode cX6_counted 3 = .ok (.tableswitch 167 0 8 #[49, 54, 59, 97, 136, 141, 146, 151, 159], 49) := by decide +kernel
theorem dX6_counted_52 : decode cX6_counted 52 = .ok (.aload_n 0, 1) := by decide +kernel
theorem dX6_counted_53 : decode cX6_counted 53 = .ok (.getfield 9, 3) := by decide +kernel
theorem dX6_counted_56 : decode cX6_counted 56 = .ok (.ireturn, 1) := by decide +kernel
theorem dX6_counted_57 : decode cX6_counted 57 = .ok (.aload_n 0, 1) := by decide +kernel
theorem dX6_counted_58 : decode cX6_counted 58 = .ok (.getfield 57, 3) := by decide +kernel
theorem dX6_counted_61 : decode cX6_counted 61 = .ok (.ireturn, 1) := by decide +kernel
theorem dX6_counted_62 : decode cX6_counted 62 = .ok (.iconst 0, 1) := by decide +kernel
theorem dX6_counted_63 : decode cX6_counted 63 = .ok (.istore_n 3, 1) := by decide +kernel
theorem dX6_counted_64 : decode cX6_counted 64 = .ok (.iload_n 3, 1) := by decide +kernel
theorem dX6_counted_65 : decode cX6_counted 65 = .ok (.aload_n 0, 1) := by decide +kernel
theorem dX6_counted_66 : decode cX6_counted 66 = .ok (.getfield 57, 3) := by decide +kernel
theorem dX6_counted_69 : decode cX6_counted 69 = .ok (.if_icmp .ge 29, 3) := by decide +kernel
theorem dX6_counted_72 : decode cX6_counted 72 = .ok (.iload_n 2, 1) := by decide +kernel
theorem dX6_counted_73 : decode cX6_counted 73 = .ok (.aload_n 0, 1) := by decide +kernel
theorem dX6_counted_74 : decode cX6_counted 74 = .ok (.iload_n 3, 1) := by decide +kernel
theorem dX6_counted_75 : decode cX6_counted 75 = .ok (.aload_n 0, 1) := by decide +kernel
theorem dX6_counted_76 : decode cX6_counted 76 = .ok (.getfield 60, 3) := by decide +kernel
theorem dX6_counted_79 : decode cX6_counted 79 = .ok (.invokevirtual 67, 3) := by decide +kernel
theorem dX6_counted_82 : decode cX6_counted 82 = .ok (.ifCond .eq 7, 3) := by decide +kernel
theorem dX6_counted_85 : decode cX6_counted 85 = .ok (.iconst 1, 1) := by decide +kernel
theorem dX6_counted_86 : decode cX6_counted 86 = .ok (.goto 4, 3) := by decide +kernel
theorem dX6_counted_89 : decode cX6_counted 89 = .ok (.iconst 0, 1) := by decide +kernel
theorem dX6_counted_90 : decode cX6_counted 90 = .ok (.iadd, 1) := by decide +kernel
theorem dX6_counted_91 : decode cX6_counted 91 = .ok (.istore_n 2, 1) := by decide +kernel
theorem dX6_counted_92 : decode cX6_counted 92 = .ok (.iinc 3 1, 3) := by decide +kernel
theorem dX6_counted_95 : decode cX6_counted 95 = .ok (.goto (-31), 3) := by decide +kernel
theorem dX6_counted_98 : decode cX6_counted 98 = .ok (.iload_n 2, 1) := by decide +kernel
theorem dX6_counted_99 : decode cX6_counted 99 = .ok (.ireturn, 1) := by decide +kernel
theorem dX6_counted_100 : decode cX6_counted 100 = .ok (.iconst 0, 1) := by decide +kernel
theorem dX6_counted_101 : decode cX6_counted 101 = .ok (.istore_n 3, 1) := by decide +kernel
theorem dX6_counted_102 : decode cX6_counted 102 = .ok (.iload_n 3, 1) := by decide +kernel
theorem dX6_counted_103 : decode cX6_counted 103 = .ok (.aload_n 0, 1) := by decide +kernel
theorem dX6_counted_104 : decode cX6_counted 104 = .ok (.getfield 9, 3) := by decide +kernel
theorem dX6_counted_107 : decode cX6_counted 107 = .ok (.if_icmp .ge 30, 3) := by decide +kernel
theorem dX6_counted_110 : decode cX6_counted 110 = .ok (.iload_n 2, 1) := by decide +kernel
theorem dX6_counted_111 : decode cX6_counted 111 = .ok (.aload_n 0, 1) := by decide +kernel
theorem dX6_counted_112 : decode cX6_counted 112 = .ok (.getfield 16, 3) := by decide +kernel
theorem dX6_counted_115 : decode cX6_counted 115 = .ok (.iconst 5, 1) := by decide +kernel
theorem dX6_counted_116 : decode cX6_counted 116 = .ok (.iload_n 3, 1) := by decide +kernel
theorem dX6_counted_117 : decode cX6_counted 117 = .ok (.imul, 1) := by decide +kernel
theorem dX6_counted_118 : decode cX6_counted 118 = .ok (.iconst 3, 1) := by decide +kernel
theorem dX6_counted_119 : decode cX6_counted 119 = .ok (.iadd, 1) := by decide +kernel
theorem dX6_counted_120 : decode cX6_counted 120 = .ok (.iaload, 1) := by decide +kernel
theorem dX6_counted_121 : decode cX6_counted 121 = .ok (.ifCond .le 7, 3) := by decide +kernel
theorem dX6_counted_124 : decode cX6_counted 124 = .ok (.iconst 1, 1) := by decide +kernel
theorem dX6_counted_125 : decode cX6_counted 125 = .ok (.goto 4, 3) := by decide +kernel
theorem dX6_counted_128 : decode cX6_counted 128 = .ok (.iconst 0, 1) := by decide +kernel
theorem dX6_counted_129 : decode cX6_counted 129 = .ok (.iadd, 1) := by decide +kernel
theorem dX6_counted_130 : decode cX6_counted 130 = .ok (.istore_n 2, 1) := by decide +kernel
theorem dX6_counted_131 : decode cX6_counted 131 = .ok (.iinc 3 1, 3) := by decide +kernel
theorem dX6_counted_134 : decode cX6_counted 134 = .ok (.goto (-32), 3) := by decide +kernel
theorem dX6_counted_137 : decode cX6_counted 137 = .ok (.iload_n 2, 1) := by decide +kernel
theorem dX6_counted_138 : decode cX6_counted 138 = .ok (.ireturn, 1) := by decide +kernel
theorem dX6_counted_139 : decode cX6_counted 139 = .ok (.aload_n 0, 1) := by decide +kernel
theorem dX6_counted_140 : decode cX6_counted 140 = .ok (.getfield 60, 3) := by decide +kernel
theorem dX6_counted_143 : decode cX6_counted 143 = .ok (.ireturn, 1) := by decide +kernel
theorem dX6_counted_144 : decode cX6_counted 144 = .ok (.aload_n 0, 1) := by decide +kernel
theorem dX6_counted_145 : decode cX6_counted 145 = .ok (.getfield 13, 3) := by decide +kernel
theorem dX6_counted_148 : decode cX6_counted 148 = .ok (.ireturn, 1) := by decide +kernel
theorem dX6_counted_149 : decode cX6_counted 149 = .ok (.aload_n 0, 1) := by decide +kernel
theorem dX6_counted_150 : decode cX6_counted 150 = .ok (.getfield 84, 3) := by decide +kernel
theorem dX6_counted_153 : decode cX6_counted 153 = .ok (.ireturn, 1) := by decide +kernel
theorem dX6_counted_154 : decode cX6_counted 154 = .ok (.aload_n 0, 1) := by decide +kernel
theorem dX6_counted_155 : decode cX6_counted 155 = .ok (.getfield 28, 3) := by decide +kernel
theorem dX6_counted_158 : decode cX6_counted 158 = .ok (.getfield 106, 3) := by decide +kernel
theorem dX6_counted_161 : decode cX6_counted 161 = .ok (.ireturn, 1) := by decide +kernel
theorem dX6_counted_162 : decode cX6_counted 162 = .ok (.aload_n 0, 1) := by decide +kernel
theorem dX6_counted_163 : decode cX6_counted 163 = .ok (.getfield 28, 3) := by decide +kernel
theorem dX6_counted_166 : decode cX6_counted 166 = .ok (.getfield 90, 3) := by decide +kernel
theorem dX6_counted_169 : decode cX6_counted 169 = .ok (.ireturn, 1) := by decide +kernel
theorem dX6_counted_170 : decode cX6_counted 170 = .ok (.aload_n 0, 1) := by decide +kernel
theorem dX6_counted_171 : decode cX6_counted 171 = .ok (.getfield 28, 3) := by decide +kernel
theorem dX6_counted_174 : decode cX6_counted 174 = .ok (.getfield 87, 3) := by decide +kernel
theorem dX6_counted_177 : decode cX6_counted 177 = .ok (.ireturn, 1) := by decide +kernel
set_option maxRecDepth 20000 in
theorem ggX6_count_X6_isIn : GoodIn wsX6_count wsX6_isIn := goodIn_r _ [5] (by decide +kernel) (by decide +kernel)
set_option maxRecDepth 20000 in
theorem gX6_count_X6_isIn : GoodIn wsX6_count (va_wsS RX6 38 yX6_isIn wsX6_isIn) := goodIn_app (goodIn_of _ (by decide +kernel)) ggX6_count_X6_isIn
set_option maxRecDepth 20000 in
theorem ggX6_count_X6_counted : GoodIn wsX6_count wsX6_counted := goodIn_r _ [9, 10, 11, 12, 13, 14, 15, 16, 17, 18, 19, 4, 20, 21, 26, 27, 28, 29, 30, 31, 32, 33, 34, 35, 36, 37, 38, 39, 40, 41, 42, 43, 44, 45, 46, 47, 48, 49, 50, 51, 52, 53, 54, 55, 56] (by decide +kernel) (by decide +kernel)
set_option maxRecDepth 20000 in
theorem gX6_count_X6_counted : GoodIn wsX6_count (wsV RX6 109 RX6 yX6_counted wsX6_counted) := goodIn_app (goodIn_of _ (by decide +kernel)) ggX6_count_X6_counted
set_option maxRecDepth 20000 in
theorem ggX6_count_X6_no : GoodIn wsX6_count wsX6_no := goodIn_r _ [25, 1, 26, 27, 28, 29, 30, 31, 32, 33, 34, 35] (by decide +kernel) (by decide +kernel)
set_option maxRecDepth 20000 in
theorem gX6_count_X6_no : GoodIn wsX6_count (wsV RX6 43 RX6 yX6_no wsX6_no) := goodIn_app (goodIn_of _ (by decide +kernel)) ggX6_count_X6_no
theorem dX6_count_0 : decode cX6_count 0 = .ok (.aload_n 0, 1) := by decide +kernel
theorem dX6_count_1 : decode cX6_count 1 = .ok (.iconst 0, 1) := by decide +kernel
theorem dX6_count_2 : decode cX6_count 2 = .ok (.putfield 35, 3) := by decide +kernel
theorem dX6_count_5 : decode cX6_count 5 = .ok (.iload_n 1, 1) := by decide +kernel
theorem dX6_count_6 : decode cX6_count 6 = .ok (.iconst 0, 1) := by decide +kernel
theorem dX6_count_7 : decode cX6_count 7 = .ok (.bipush 9, 2) := by decide +kernel
theorem dX6_count_9 : decode cX6_count 9 = .ok (.invokestatic 38, 3) := by decide +kernel
theorem dX6_count_12 : decode cX6_count 12 = .ok (.ifCond .eq 11, 3) := by decide +kernel
theorem dX6_count_15 : decode cX6_count 15 = .ok (.aload_n 0, 1) := by decide +kernel
theorem dX6_count_16 : decode cX6_count 16 = .ok (.iload_n 1, 1) := by decide +kernel
theorem dX6_count_17 : decode cX6_count 17 = .ok (.invokevirtual 109, 3) := by decide +kernel
theorem dX6_count_20 : decode cX6_count 20 = .ok (.goto 8, 3) := by decide +kernel
theorem dX6_count_23 : decode cX6_count 23 = .ok (.aload_n 0, 1) := by decide +kernel
theorem dX6_count_24 : decode cX6_count 24 = .ok (.iconst 1, 1) := by decide +kernel
theorem dX6_count_25 : decode cX6_count 25 = .ok (.invokevirtual 43, 3) := by decide +kernel
theorem dX6_count_28 : decode cX6_count 28 = .ok (.ireturn, 1) := by decide +kernel
set_option maxRecDepth 20000 in
theorem ggX6_comes_X5_say : GoodIn wsX6_comes wsX5_say := goodIn_r _ [6, 7, 8, 9, 10, 11, 12, 13, 14, 15, 16, 17, 18, 19, 20, 21, 22, 23, 24, 25, 5, 26, 27, 28, 29, 30, 31, 32, 33, 34, 35, 36, 37, 38, 39, 40, 41, 42, 43, 44, 45, 46, 47, 48, 49, 50, 51, 52, 53, 54, 55, 56, 57, 58, 59, 60, 61, 62, 63, 64, 79, 80, 81, 82, 83, 84, 85, 86, 87, 88, 89, 90, 91, 92, 93, 94, 95, 96, 97, 98, 99, 69, 70, 71, 72, 73, 74, 75, 76, 77, 78] (by decide +kernel) (by decide +kernel)
set_option maxRecDepth 20000 in
theorem gX6_comes_X5_say : GoodIn wsX6_comes (wsV RX6 80 RX5 yX5_say wsX5_say) := goodIn_app (goodIn_of _ (by decide +kernel)) ggX6_comes_X5_say
set_option maxRecDepth 20000 in
theorem ggX6_comes_X5_isInOrder : GoodIn wsX6_comes wsX5_isInOrder := goodIn_r _ [68, 8, 12, 79, 80, 81, 82, 83, 84, 85, 86, 87, 88, 89, 90, 91, 92, 93, 94, 95, 96, 97, 98, 99] (by decide +kernel) (by decide +kernel)
set_option maxRecDepth 20000 in
theorem gX6_comes_X5_isInOrder : GoodIn wsX6_comes (wsV RX6 96 RX5 yX5_isInOrder wsX5_isInOrder) := goodIn_app (goodIn_of _ (by decide +kernel)) ggX6_comes_X5_isInOrder
theorem dX6_comes_0 : decode cX6_comes 0 = .ok (.aload_n 0, 1) := by decide +kernel
theorem dX6_comes_1 : decode cX6_comes 1 = .ok (.getfield 32, 3) := by decide +kernel
theorem dX6_comes_4 : decode cX6_comes 4 = .ok (.iload_n 1, 1) := by decide +kernel
theorem dX6_comes_5 : decode cX6_comes 5 = .ok (.iload_n 2, 1) := by decide +kernel
theorem dX6_comes_6 : decode cX6_comes 6 = .ok (.invokevirtual 80, 3) := by decide +kernel
theorem dX6_comes_9 : decode cX6_comes 9 = .ok (.aload_n 0, 1) := by decide +kernel
theorem dX6_comes_10 : decode cX6_comes 10 = .ok (.getfield 32, 3) := by decide +kernel
theorem dX6_comes_13 : decode cX6_comes 13 = .ok (.invokevirtual 96, 3) := by decide +kernel
theorem dX6_comes_16 : decode cX6_comes 16 = .ok (.ireturn, 1) := by decide +kernel
set_option maxRecDepth 20000 in
theorem ggX6_would_X6_isWord : GoodIn wsX6_would wsX6_isWord := goodIn_r _ [6, 7, 8, 9, 5, 10] (by decide +kernel) (by decide +kernel)
set_option maxRecDepth 20000 in
theorem gX6_would_X6_isWord : GoodIn wsX6_would (va_wsS RX6 77 yX6_isWord wsX6_isWord) := goodIn_app (goodIn_of _ (by decide +kernel)) ggX6_would_X6_isWord
set_option maxRecDepth 20000 in
theorem ggX6_would_X6_isIn : GoodIn wsX6_would wsX6_isIn := goodIn_r _ [10] (by decide +kernel) (by decide +kernel)
set_option maxRecDepth 20000 in
theorem gX6_would_X6_isIn : GoodIn wsX6_would (va_wsS RX6 38 yX6_isIn wsX6_isIn) := goodIn_app (goodIn_of _ (by decide +kernel)) ggX6_would_X6_isIn
set_option maxRecDepth 20000 in
theorem ggX6_would_X6_no : GoodIn wsX6_would wsX6_no := goodIn_r _ [14, 1, 85, 86, 87, 88, 89, 90, 91, 92, 93, 94] (by decide +kernel) (by decide +kernel)
set_option maxRecDepth 20000 in
theorem gX6_would_X6_no : GoodIn wsX6_would (wsV RX6 43 RX6 yX6_no wsX6_no) := goodIn_app (goodIn_of _ (by decide +kernel)) ggX6_would_X6_no
set_option maxRecDepth 20000 in
theorem ggX6_would_X6_comes : GoodIn wsX6_would wsX6_comes := goodIn_r _ [18, 2, 19, 20, 21, 22, 23, 24, 25, 26, 27, 28, 29, 30, 31, 32, 33, 34, 35, 36, 37, 38, 39, 40, 41, 42, 43, 44, 45, 46, 47, 48, 49, 50, 51, 52, 53, 54, 55, 56, 57, 58, 59, 60, 61, 62, 63, 64, 65, 66, 67, 68, 69, 5, 70, 71, 72, 73, 74, 75, 76, 77, 78, 79, 80, 81, 82, 83, 84, 85, 86, 87, 88, 89, 90, 91, 92, 93, 94, 95, 96, 97, 98, 99, 100, 101, 102, 103, 104, 105, 106, 107, 108, 109, 110, 111, 112, 113, 114, 115] (by decide +kernel) (by decide +kernel)
set_option maxRecDepth 20000 in
theorem gX6_would_X6_comes : GoodIn wsX6_would (wsV RX6 111 RX6 yX6_comes wsX6_comes) := goodIn_app (goodIn_of _ (by decide +kernel)) ggX6_would_X6_comes
theorem dX6_would_0 : decode cX6_would 0 = .ok (.aload_n 0, 1) := by decide +kernel
theorem dX6_would_1 : decode cX6_would 1 = .ok (.iconst 0, 1) := by decide +kernel
theorem dX6_would_2 : decode cX6_would 2 = .ok (.putfield 35, 3) := by decide +kernel
theorem dX6_would_5 : decode cX6_would 5 = .ok (.iload_n 1, 1) := by decide +kernel
theorem dX6_would_6 : decode cX6_would 6 = .ok (.invokestatic 77, 3) := by decide +kernel
theorem dX6_would_9 : decode cX6_would 9 = .ok (.ifCond .eq 13, 3) := by decide +kernel
theorem dX6_would_12 : decode cX6_would 12 = .ok (.iload_n 2, 1) := by decide +kernel
theorem dX6_would_13 : decode cX6_would 13 = .ok (.iconst 1, 1) := by decide +kernel
theorem dX6_would_14 : decode cX6_would 14 = .ok (.bipush 20, 2) := by decide +kernel
theorem dX6_would_16 : decode cX6_would 16 = .ok (.invokestatic 38, 3) := by decide +kernel
theorem dX6_would_19 : decode cX6_would 19 = .ok (.ifCond .ne 9, 3) := by decide +kernel
theorem dX6_would_22 : decode cX6_would 22 = .ok (.aload_n 0, 1) := by decide +kernel
theorem dX6_would_23 : decode cX6_would 23 = .ok (.iconst 1, 1) := by decide +kernel
theorem dX6_would_24 : decode cX6_would 24 = .ok (.invokevirtual 43, 3) := by decide +kernel
theorem dX6_would_27 : decode cX6_would 27 = .ok (.ireturn, 1) := by decide +kernel
theorem dX6_would_28 : decode cX6_would 28 = .ok (.iload_n 3, 1) := by decide +kernel
theorem dX6_would_29 : decode cX6_would 29 = .ok (.iconst 0, 1) := by decide +kernel
theorem dX6_would_30 : decode cX6_would 30 = .ok (.iconst 3, 1) := by decide +kernel
theorem dX6_would_31 : decode cX6_would 31 = .ok (.invokestatic 38, 3) := by decide +kernel
theorem dX6_would_34 : decode cX6_would 34 = .ok (.ifCond .ne 9, 3) := by decide +kernel
theorem dX6_would_37 : decode cX6_would 37 = .ok (.aload_n 0, 1) := by decide +kernel
theorem dX6_would_38 : decode cX6_would 38 = .ok (.iconst 2, 1) := by decide +kernel
theorem dX6_would_39 : decode cX6_would 39 = .ok (.invokevirtual 43, 3) := by decide +kernel
theorem dX6_would_42 : decode cX6_would 42 = .ok (.ireturn, 1) := by decide +kernel
theorem dX6_would_43 : decode cX6_would 43 = .ok (.aload_n 0, 1) := by decide +kernel
theorem dX6_would_44 : decode cX6_would 44 = .ok (.iload_n 1, 1) := by decide +kernel
theorem dX6_would_45 : decode cX6_would 45 = .ok (.iload_n 2, 1) := by decide +kernel
theorem dX6_would_46 : decode cX6_would 46 = .ok (.invokevirtual 111, 3) := by decide +kernel
theorem dX6_would_49 : decode cX6_would 49 = .ok (.istore 4, 2) := by decide +kernel
theorem dX6_would_51 : decode cX6_would 51 = .ok (.iload_n 3, 1) := by decide +kernel
theorem dX6_would_52 : decode cX6_would 52 = .ok (.tableswitch 55 0 2 #[28, 36, 47], 28) := by decide +kernel
theorem dX6_would_80 : decode cX6_would 80 = .ok (.aload_n 0, 1) := by decide +kernel
theorem dX6_would_81 : decode cX6_would 81 = .ok (.getfield 32, 3) := by decide +kernel
theorem dX6_would_84 : decode cX6_would 84 = .ok (.getfield 87, 3) := by decide +kernel
theorem dX6_would_87 : decode cX6_would 87 = .ok (.ireturn, 1) := by decide +kernel
theorem dX6_would_88 : decode cX6_would 88 = .ok (.iload 4, 2) := by decide +kernel
theorem dX6_would_90 : decode cX6_would 90 = .ok (.ifCond .eq 7, 3) := by decide +kernel
theorem dX6_would_93 : decode cX6_would 93 = .ok (.iconst 1, 1) := by decide +kernel
theorem dX6_would_94 : decode cX6_would 94 = .ok (.goto 4, 3) := by decide +kernel
theorem dX6_would_97 : decode cX6_would 97 = .ok (.iconst 0, 1) := by decide +kernel
theorem dX6_would_98 : decode cX6_would 98 = .ok (.ireturn, 1) := by decide +kernel
theorem dX6_would_99 : decode cX6_would 99 = .ok (.aload_n 0, 1) := by decide +kernel
theorem dX6_would_100 : decode cX6_would 100 = .ok (.getfield 32, 3) := by decide +kernel
theorem dX6_would_103 : decode cX6_would 103 = .ok (.getfield 114, 3) := by decide +kernel
theorem dX6_would_106 : decode cX6_would 106 = .ok (.ireturn, 1) := by decide +kernel
theorem dX6_would_107 : decode cX6_would 107 = .ok (.aload_n 0, 1) := by decide +kernel
theorem dX6_would_108 : decode cX6_would 108 = .ok (.getfield 32, 3) := by decide +kernel
theorem dX6_would_111 : decode cX6_would 111 = .ok (.getfield 117, 3) := by decide +kernel
theorem dX6_would_114 : decode cX6_would 114 = .ok (.ireturn, 1) := by decide +kernel
set_option maxRecDepth 20000 in
theorem ggX6_advise_X6_isWord : GoodIn wsX6_advise wsX6_isWord := goodIn_r _ [7, 8, 9, 10, 6, 11] (by decide +kernel) (by decide +kernel)
set_option maxRecDepth 20000 in
theorem gX6_advise_X6_isWord : GoodIn wsX6_advise (va_wsS RX6 77 yX6_isWord wsX6_isWord) := goodIn_app (goodIn_of _ (by decide +kernel)) ggX6_advise_X6_isWord
set_option maxRecDepth 20000 in
theorem ggX6_advise_X6_isIn : GoodIn wsX6_advise wsX6_isIn := goodIn_r _ [11] (by decide +kernel) (by decide +kernel)
set_option maxRecDepth 20000 in
theorem gX6_advise_X6_isIn : GoodIn wsX6_advise (va_wsS RX6 38 yX6_isIn wsX6_isIn) := goodIn_app (goodIn_of _ (by decide +kernel)) ggX6_advise_X6_isIn
set_option maxRecDepth 20000 in
theorem ggX6_advise_X6_no : GoodIn wsX6_advise wsX6_no := goodIn_r _ [15, 1, 90, 91, 92, 93, 94, 95, 96, 97, 98, 99] (by decide +kernel) (by decide +kernel)
set_option maxRecDepth 20000 in
theorem gX6_advise_X6_no : GoodIn wsX6_advise (wsV RX6 43 RX6 yX6_no wsX6_no) := goodIn_app (goodIn_of _ (by decide +kernel)) ggX6_advise_X6_no
set_option maxRecDepth 20000 in
theorem ggX6_advise_X5_instead : GoodIn wsX6_advise wsX5_instead := goodIn_r _ [20, 21, 22, 23, 100, 101, 102, 103, 104, 105, 106, 107, 108, 109, 110, 111, 112, 113, 114, 115, 116, 117, 118, 119, 120] (by decide +kernel) (by decide +kernel)
set_option maxRecDepth 20000 in
theorem gX6_advise_X5_instead : GoodIn wsX6_advise (wsV RX6 120 RX5 yX5_instead wsX5_instead) := goodIn_app (goodIn_of _ (by decide +kernel)) ggX6_advise_X5_instead
set_option maxRecDepth 20000 in
theorem ggX6_advise_X6_comes : GoodIn wsX6_advise wsX6_comes := goodIn_r _ [27, 3, 28, 29, 30, 19, 31, 32, 33, 34, 35, 36, 37, 38, 39, 40, 41, 42, 43, 44, 45, 46, 47, 48, 49, 50, 51, 52, 53, 54, 55, 56, 57, 58, 59, 60, 61, 62, 63, 64, 65, 66, 67, 68, 69, 70, 71, 72, 73, 21, 22, 23, 74, 6, 75, 76, 77, 78, 79, 80, 81, 82, 83, 84, 85, 86, 87, 88, 89, 90, 91, 92, 93, 94, 95, 96, 97, 98, 99, 100, 101, 102, 103, 104, 105, 106, 107, 108, 109, 110, 111, 112, 113, 114, 115, 116, 117, 118, 119, 120] (by decide +kernel) (by decide +kernel)
set_option maxRecDepth 20000 in
theorem gX6_advise_X6_comes : GoodIn wsX6_advise (wsV RX6 111 RX6 yX6_comes wsX6_comes) := goodIn_app (goodIn_of _ (by decide +kernel)) ggX6_advise_X6_comes
theorem dX6_advise_0 : decode cX6_advise 0 = .ok (.aload_n 0, 1) := by decide +kernel
theorem dX6_advise_1 : decode cX6_advise 1 = .ok (.iconst 0, 1) := by decide +kernel
theorem dX6_advise_2 : decode cX6_advise 2 = .ok (.putfield 35, 3) := by decide +kernel
theorem dX6_advise_5 : decode cX6_advise 5 = .ok (.iload_n 1, 1) := by decide +kernel
theorem dX6_advise_6 : decode cX6_advise 6 = .ok (.invokestatic 77, 3) := by decide +kernel
theorem dX6_advise_9 : decode cX6_advise 9 = .ok (.ifCond .eq 34, 3) := by decide +kernel
theorem dX6_advise_12 : decode cX6_advise 12 = .ok (.iload_n 2, 1) := by decide +kernel
theorem dX6_advise_13 : decode cX6_advise 13 = .ok (.iconst 1, 1) := by decide +kernel
theorem dX6_advise_14 : decode cX6_advise 14 = .ok (.bipush 20, 2) := by decide +kernel
theorem dX6_advise_16 : decode cX6_advise 16 = .ok (.invokestatic 38, 3) := by decide +kernel
theorem dX6_advise_19 : decode cX6_advise 19 = .ok (.ifCond .eq 24, 3) := by decide +kernel
theorem dX6_advise_22 : decode cX6_advise 22 = .ok (.iload_n 3, 1) := by decide +kernel
theorem dX6_advise_23 : decode cX6_advise 23 = .ok (.iconst 1, 1) := by decide +kernel
theorem dX6_advise_24 : decode cX6_advise 24 = .ok (.bipush 9, 2) := by decide +kernel
theorem dX6_advise_26 : decode cX6_advise 26 = .ok (.invokestatic 38, 3) := by decide +kernel
theorem dX6_advise_29 : decode cX6_advise 29 = .ok (.ifCond .eq 14, 3) := by decide +kernel
theorem dX6_advise_32 : decode cX6_advise 32 = .ok (.iload 4, 2) := by decide +kernel
theorem dX6_advise_34 : decode cX6_advise 34 = .ok (.iconst 0, 1) := by decide +kernel
theorem dX6_advise_35 : decode cX6_advise 35 = .ok (.bipush 20, 2) := by decide +kernel
theorem dX6_advise_37 : decode cX6_advise 37 = .ok (.invokestatic 38, 3) := by decide +kernel
theorem dX6_advise_40 : decode cX6_advise 40 = .ok (.ifCond .ne 9, 3) := by decide +kernel
theorem dX6_advise_43 : decode cX6_advise 43 = .ok (.aload_n 0, 1) := by decide +kernel
theorem dX6_advise_44 : decode cX6_advise 44 = .ok (.iconst 1, 1) := by decide +kernel
theorem dX6_advise_45 : decode cX6_advise 45 = .ok (.invokevirtual 43, 3) := by decide +kernel
theorem dX6_advise_48 : decode cX6_advise 48 = .ok (.ireturn, 1) := by decide +kernel
theorem dX6_advise_49 : decode cX6_advise 49 = .ok (.iconst (-1), 1) := by decide +kernel
theorem dX6_advise_50 : decode cX6_advise 50 = .ok (.istore 5, 2) := by decide +kernel
theorem dX6_advise_52 : decode cX6_advise 52 = .ok (.aload_n 0, 1) := by decide +kernel
theorem dX6_advise_53 : decode cX6_advise 53 = .ok (.getfield 9, 3) := by decide +kernel
theorem dX6_advise_56 : decode cX6_advise 56 = .ok (.iconst 1, 1) := by decide +kernel
theorem dX6_advise_57 : decode cX6_advise 57 = .ok (.isub, 1) := by decide +kernel
theorem dX6_advise_58 : decode cX6_advise 58 = .ok (.istore 6, 2) := by decide +kernel
theorem dX6_advise_60 : decode cX6_advise 60 = .ok (.iload 6, 2) := by decide +kernel
theorem dX6_advise_62 : decode cX6_advise 62 = .ok (.ifCond .le 34, 3) := by decide +kernel
theorem dX6_advise_65 : decode cX6_advise 65 = .ok (.aload_n 0, 1) := by decide +kernel
theorem dX6_advise_66 : decode cX6_advise 66 = .ok (.getfield 32, 3) := by decide +kernel
theorem dX6_advise_69 : decode cX6_advise 69 = .ok (.iload 6, 2) := by decide +kernel
theorem dX6_advise_71 : decode cX6_advise 71 = .ok (.iload_n 3, 1) := by decide +kernel
theorem dX6_advise_72 : decode cX6_advise 72 = .ok (.iload 4, 2) := by decide +kernel
theorem dX6_advise_74 : decode cX6_advise 74 = .ok (.invokevirtual 120, 3) := by decide +kernel
theorem dX6_advise_77 : decode cX6_advise 77 = .ok (.aload_n 0, 1) := by decide +kernel
theorem dX6_advise_78 : decode cX6_advise 78 = .ok (.iload_n 1, 1) := by decide +kernel
theorem dX6_advise_79 : decode cX6_advise 79 = .ok (.iload_n 2, 1) := by decide +kernel
theorem dX6_advise_80 : decode cX6_advise 80 = .ok (.invokevirtual 111, 3) := by decide +kernel
theorem dX6_advise_83 : decode cX6_advise 83 = .ok (.ifCond .eq 7, 3) := by decide +kernel
theorem dX6_advise_86 : decode cX6_advise 86 = .ok (.iload 6, 2) := by decide +kernel
theorem dX6_advise_88 : decode cX6_advise 88 = .ok (.istore 5, 2) := by decide +kernel
theorem dX6_advise_90 : decode cX6_advise 90 = .ok (.iinc 6 (-1), 3) := by decide +kernel
theorem dX6_advise_93 : decode cX6_advise 93 = .ok (.goto (-33), 3) := by decide +kernel
theorem dX6_advise_96 : decode cX6_advise 96 = .ok (.aload_n 0, 1) := by decide +kernel
theorem dX6_advise_97 : decode cX6_advise 97 = .ok (.getfield 32, 3) := by decide +kernel
theorem dX6_advise_100 : decode cX6_advise 100 = .ok (.iconst (-1), 1) := by decide +kernel
theorem dX6_advise_101 : decode cX6_advise 101 = .ok (.iconst 0, 1) := by decide +kernel
theorem dX6_advise_102 : decode cX6_advise 102 = .ok (.iconst 0, 1) := by decide +kernel
theorem dX6_advise_103 : decode cX6_advise 103 = .ok (.invokevirtual 120, 3) := by decide +kernel
theorem dX6_advise_106 : decode cX6_advise 106 = .ok (.iload 5, 2) := by decide +kernel
theorem dX6_advise_108 : decode cX6_advise 108 = .ok (.ireturn, 1) := by decide +kernel
set_option maxRecDepth 20000 in
theorem ggX6_longest_X6_isIn : GoodIn wsX6_longest wsX6_isIn := goodIn_r _ [5] (by decide +kernel) (by decide +kernel)
set_option maxRecDepth 20000 in
theorem gX6_longest_X6_isIn : GoodIn wsX6_longest (va_wsS RX6 38 yX6_isIn wsX6_isIn) := goodIn_app (goodIn_of _ (by decide +kernel)) ggX6_longest_X6_isIn
set_option maxRecDepth 20000 in
theorem ggX6_longest_X6_no : GoodIn wsX6_longest wsX6_no := goodIn_r _ [9, 1, 81, 82, 83, 84, 85, 86, 87, 88, 89, 90] (by decide +kernel) (by decide +kernel)
set_option maxRecDepth 20000 in
theorem gX6_longest_X6_no : GoodIn wsX6_longest (wsV RX6 43 RX6 yX6_no wsX6_no) := goodIn_app (goodIn_of _ (by decide +kernel)) ggX6_longest_X6_no
set_option maxRecDepth 20000 in
theorem ggX6_longest_X6_comes : GoodIn wsX6_longest wsX6_comes := goodIn_r _ [13, 14, 15, 16, 17, 18, 19, 20, 21, 22, 23, 24, 25, 26, 27, 28, 29, 30, 31, 32, 33, 34, 35, 36, 37, 38, 39, 40, 41, 42, 43, 44, 45, 46, 47, 48, 49, 50, 51, 52, 53, 54, 55, 56, 57, 58, 59, 60, 61, 62, 63, 64, 65, 4, 66, 67, 68, 69, 70, 71, 72, 73, 74, 75, 76, 77, 78, 79, 80, 81, 82, 83, 84, 85, 86, 87, 88, 89, 90, 91, 92, 93, 94, 95, 96, 97, 98, 99, 100, 101, 102, 103, 104, 105, 106, 107, 108, 109, 110, 111] (by decide +kernel) (by decide +kernel)
set_option maxRecDepth 20000 in
theorem gX6_longest_X6_comes : GoodIn wsX6_longest (wsV RX6 111 RX6 yX6_comes wsX6_comes) := goodIn_app (goodIn_of _ (by decide +kernel)) ggX6_longest_X6_comes
