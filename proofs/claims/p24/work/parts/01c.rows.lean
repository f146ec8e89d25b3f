theorem dX0_init_0 : decode cX0_init 0 = .ok (.aload_n 0, 1) := by decide +kernel
theorem dX0_init_1 : decode cX0_init 1 = .ok (.invokespecial 3, 3) := by decide +kernel
theorem dX0_init_4 : decode cX0_init 4 = .ok (.aload_n 0, 1) := by decide +kernel
theorem dX0_init_5 : decode cX0_init 5 = .ok (.bipush 12, 2) := by decide +kernel
theorem dX0_init_7 : decode cX0_init 7 = .ok (.newarray .int, 2) := by decide +kernel
theorem dX0_init_9 : decode cX0_init 9 = .ok (.putfield 9, 3) := by decide +kernel
theorem dX0_init_12 : decode cX0_init 12 = .ok (.aload_n 0, 1) := by decide +kernel
theorem dX0_init_13 : decode cX0_init 13 = .ok (.bipush 12, 2) := by decide +kernel
theorem dX0_init_15 : decode cX0_init 15 = .ok (.newarray .int, 2) := by decide +kernel
theorem dX0_init_17 : decode cX0_init 17 = .ok (.putfield 15, 3) := by decide +kernel
theorem dX0_init_20 : decode cX0_init 20 = .ok (.aload_n 0, 1) := by decide +kernel
theorem dX0_init_21 : decode cX0_init 21 = .ok (.bipush 12, 2) := by decide +kernel
theorem dX0_init_23 : decode cX0_init 23 = .ok (.newarray .int, 2) := by decide +kernel
theorem dX0_init_25 : decode cX0_init 25 = .ok (.putfield 18, 3) := by decide +kernel
theorem dX0_init_28 : decode cX0_init 28 = .ok (.aload_n 0, 1) := by decide +kernel
theorem dX0_init_29 : decode cX0_init 29 = .ok (.bipush 12, 2) := by decide +kernel
theorem dX0_init_31 : decode cX0_init 31 = .ok (.newarray .int, 2) := by decide +kernel
theorem dX0_init_33 : decode cX0_init 33 = .ok (.putfield 21, 3) := by decide +kernel
theorem dX0_init_36 : decode cX0_init 36 = .ok (.aload_n 0, 1) := by decide +kernel
theorem dX0_init_37 : decode cX0_init 37 = .ok (.bipush 12, 2) := by decide +kernel
theorem dX0_init_39 : decode cX0_init 39 = .ok (.newarray .int, 2) := by decide +kernel
theorem dX0_init_41 : decode cX0_init 41 = .ok (.putfield 24, 3) := by decide +kernel
theorem dX0_init_44 : decode cX0_init 44 = .ok (.aload_n 0, 1) := by decide +kernel
theorem dX0_init_45 : decode cX0_init 45 = .ok (.bipush 12, 2) := by decide +kernel
theorem dX0_init_47 : decode cX0_init 47 = .ok (.newarray .int, 2) := by decide +kernel
theorem dX0_init_49 : decode cX0_init 49 = .ok (.putfield 27, 3) := by decide +kernel
theorem dX0_init_52 : decode cX0_init 52 = .ok (.aload_n 0, 1) := by decide +kernel
theorem dX0_init_53 : decode cX0_init 53 = .ok (.bipush 12, 2) := by decide +kernel
theorem dX0_init_55 : decode cX0_init 55 = .ok (.bipush 18, 2) := by decide +kernel
theorem dX0_init_57 : decode cX0_init 57 = .ok (.multianewarray 30 2, 4) := by decide +kernel
theorem dX0_init_61 : decode cX0_init 61 = .ok (.putfield 32, 3) := by decide +kernel
theorem dX0_init_64 : decode cX0_init 64 = .ok (.aload_n 0, 1) := by decide +kernel
theorem dX0_init_65 : decode cX0_init 65 = .ok (.bipush 18, 2) := by decide +kernel
theorem dX0_init_67 : decode cX0_init 67 = .ok (.newarray .int, 2) := by decide +kernel
theorem dX0_init_69 : decode cX0_init 69 = .ok (.putfield 35, 3) := by decide +kernel
theorem dX0_init_72 : decode cX0_init 72 = .ok (.aload_n 0, 1) := by decide +kernel
theorem dX0_init_73 : decode cX0_init 73 = .ok (.bipush 18, 2) := by decide +kernel
theorem dX0_init_75 : decode cX0_init 75 = .ok (.newarray .int, 2) := by decide +kernel
theorem dX0_init_77 : decode cX0_init 77 = .ok (.putfield 38, 3) := by decide +kernel
theorem dX0_init_80 : decode cX0_init 80 = .ok (.aload_n 0, 1) := by decide +kernel
theorem dX0_init_81 : decode cX0_init 81 = .ok (.bipush 18, 2) := by decide +kernel
theorem dX0_init_83 : decode cX0_init 83 = .ok (.newarray .int, 2) := by decide +kernel
theorem dX0_init_85 : decode cX0_init 85 = .ok (.putfield 41, 3) := by decide +kernel
theorem dX0_init_88 : decode cX0_init 88 = .ok (.aload_n 0, 1) := by decide +kernel
theorem dX0_init_89 : decode cX0_init 89 = .ok (.bipush 18, 2) := by decide +kernel
theorem dX0_init_91 : decode cX0_init 91 = .ok (.newarray .int, 2) := by decide +kernel
theorem dX0_init_93 : decode cX0_init 93 = .ok (.putfield 44, 3) := by decide +kernel
theorem dX0_init_96 : decode cX0_init 96 = .ok (.aload_n 0, 1) := by decide +kernel
theorem dX0_init_97 : decode cX0_init 97 = .ok (.bipush 12, 2) := by decide +kernel
theorem dX0_init_99 : decode cX0_init 99 = .ok (.newarray .int, 2) := by decide +kernel
theorem dX0_init_101 : decode cX0_init 101 = .ok (.putfield 47, 3) := by decide +kernel
theorem dX0_init_104 : decode cX0_init 104 = .ok (.aload_n 0, 1) := by decide +kernel
theorem dX0_init_105 : decode cX0_init 105 = .ok (.getfield 15, 3) := by decide +kernel
theorem dX0_init_108 : decode cX0_init 108 = .ok (.iconst 0, 1) := by decide +kernel
theorem dX0_init_109 : decode cX0_init 109 = .ok (.bipush 30, 2) := by decide +kernel
theorem dX0_init_111 : decode cX0_init 111 = .ok (.iastore, 1) := by decide +kernel
theorem dX0_init_112 : decode cX0_init 112 = .ok (.aload_n 0, 1) := by decide +kernel
theorem dX0_init_113 : decode cX0_init 113 = .ok (.iconst 1, 1) := by decide +kernel
theorem dX0_init_114 : decode cX0_init 114 = .ok (.putfield 50, 3) := by decide +kernel
theorem dX0_init_117 : decode cX0_init 117 = .ok (.aload_n 0, 1) := by decide +kernel
theorem dX0_init_118 : decode cX0_init 118 = .ok (.iconst 0, 1) := by decide +kernel
theorem dX0_init_119 : decode cX0_init 119 = .ok (.putfield 54, 3) := by decide +kernel
theorem dX0_init_122 : decode cX0_init 122 = .ok (.aload_n 0, 1) := by decide +kernel
theorem dX0_init_123 : decode cX0_init 123 = .ok (.iconst 0, 1) := by decide +kernel
theorem dX0_init_124 : decode cX0_init 124 = .ok (.putfield 57, 3) := by decide +kernel
theorem dX0_init_127 : decode cX0_init 127 = .ok (.return_, 1) := by decide +kernel
set_option maxRecDepth 20000 in
theorem ggX0_hasChamber_X4_isWithin : GoodIn wsX0_hasChamber wsX4_isWithin := goodIn_r _ [4] (by decide +kernel) (by decide +kernel)
set_option maxRecDepth 20000 in
theorem gX0_hasChamber_X4_isWithin_n60 : GoodIn wsX0_hasChamber (wsX4_isWithin) := ggX0_hasChamber_X4_isWithin
theorem dX0_hasChamber_0 : decode cX0_hasChamber 0 = .ok (.iload_n 1, 1) := by decide +kernel
theorem dX0_hasChamber_1 : decode cX0_hasChamber 1 = .ok (.iconst 0, 1) := by decide +kernel
theorem dX0_hasChamber_2 : decode cX0_hasChamber 2 = .ok (.aload_n 0, 1) := by decide +kernel
theorem dX0_hasChamber_3 : decode cX0_hasChamber 3 = .ok (.getfield 50, 3) := by decide +kernel
theorem dX0_hasChamber_6 : decode cX0_hasChamber 6 = .ok (.iconst 1, 1) := by decide +kernel
theorem dX0_hasChamber_7 : decode cX0_hasChamber 7 = .ok (.isub, 1) := by decide +kernel
theorem dX0_hasChamber_8 : decode cX0_hasChamber 8 = .ok (.invokestatic 60, 3) := by decide +kernel
theorem dX0_hasChamber_11 : decode cX0_hasChamber 11 = .ok (.ireturn, 1) := by decide +kernel
set_option maxRecDepth 20000 in
theorem ggX0_hasPassage_X4_isWithin : GoodIn wsX0_hasPassage wsX4_isWithin := goodIn_r _ [4] (by decide +kernel) (by decide +kernel)
set_option maxRecDepth 20000 in
theorem gX0_hasPassage_X4_isWithin_n60 : GoodIn wsX0_hasPassage (wsX4_isWithin) := ggX0_hasPassage_X4_isWithin
theorem dX0_hasPassage_0 : decode cX0_hasPassage 0 = .ok (.iload_n 1, 1) := by decide +kernel
theorem dX0_hasPassage_1 : decode cX0_hasPassage 1 = .ok (.iconst 0, 1) := by decide +kernel
theorem dX0_hasPassage_2 : decode cX0_hasPassage 2 = .ok (.aload_n 0, 1) := by decide +kernel
theorem dX0_hasPassage_3 : decode cX0_hasPassage 3 = .ok (.getfield 54, 3) := by decide +kernel
theorem dX0_hasPassage_6 : decode cX0_hasPassage 6 = .ok (.iconst 1, 1) := by decide +kernel
theorem dX0_hasPassage_7 : decode cX0_hasPassage 7 = .ok (.isub, 1) := by decide +kernel
theorem dX0_hasPassage_8 : decode cX0_hasPassage 8 = .ok (.invokestatic 60, 3) := by decide +kernel
theorem dX0_hasPassage_11 : decode cX0_hasPassage 11 = .ok (.ireturn, 1) := by decide +kernel
theorem dX0_findChamber_0 : decode cX0_findChamber 0 = .ok (.aload_n 0, 1) := by decide +kernel
theorem dX0_findChamber_1 : decode cX0_findChamber 1 = .ok (.getfield 50, 3) := by decide +kernel
theorem dX0_findChamber_4 : decode cX0_findChamber 4 = .ok (.istore 4, 2) := by decide +kernel
theorem dX0_findChamber_6 : decode cX0_findChamber 6 = .ok (.aload_n 0, 1) := by decide +kernel
theorem dX0_findChamber_7 : decode cX0_findChamber 7 = .ok (.getfield 9, 3) := by decide +kernel
theorem dX0_findChamber_10 : decode cX0_findChamber 10 = .ok (.iload 4, 2) := by decide +kernel
theorem dX0_findChamber_12 : decode cX0_findChamber 12 = .ok (.iload_n 1, 1) := by decide +kernel
theorem dX0_findChamber_13 : decode cX0_findChamber 13 = .ok (.iastore, 1) := by decide +kernel
theorem dX0_findChamber_14 : decode cX0_findChamber 14 = .ok (.aload_n 0, 1) := by decide +kernel
theorem dX0_findChamber_15 : decode cX0_findChamber 15 = .ok (.getfield 15, 3) := by decide +kernel
theorem dX0_findChamber_18 : decode cX0_findChamber 18 = .ok (.iload 4, 2) := by decide +kernel
theorem dX0_findChamber_20 : decode cX0_findChamber 20 = .ok (.iload_n 2, 1) := by decide +kernel
theorem dX0_findChamber_21 : decode cX0_findChamber 21 = .ok (.iastore, 1) := by decide +kernel
theorem dX0_findChamber_22 : decode cX0_findChamber 22 = .ok (.aload_n 0, 1) := by decide +kernel
theorem dX0_findChamber_23 : decode cX0_findChamber 23 = .ok (.getfield 18, 3) := by decide +kernel
theorem dX0_findChamber_26 : decode cX0_findChamber 26 = .ok (.iload 4, 2) := by decide +kernel
theorem dX0_findChamber_28 : decode cX0_findChamber 28 = .ok (.iload_n 3, 1) := by decide +kernel
theorem dX0_findChamber_29 : decode cX0_findChamber 29 = .ok (.iastore, 1) := by decide +kernel
theorem dX0_findChamber_30 : decode cX0_findChamber 30 = .ok (.aload_n 0, 1) := by decide +kernel
theorem dX0_findChamber_31 : decode cX0_findChamber 31 = .ok (.dup, 1) := by decide +kernel
theorem dX0_findChamber_32 : decode cX0_findChamber 32 = .ok (.getfield 50, 3) := by decide +kernel
theorem dX0_findChamber_35 : decode cX0_findChamber 35 = .ok (.iconst 1, 1) := by decide +kernel
theorem dX0_findChamber_36 : decode cX0_findChamber 36 = .ok (.iadd, 1) := by decide +kernel
theorem dX0_findChamber_37 : decode cX0_findChamber 37 = .ok (.putfield 50, 3) := by decide +kernel
theorem dX0_findChamber_40 : decode cX0_findChamber 40 = .ok (.iload 4, 2) := by decide +kernel
theorem dX0_findChamber_42 : decode cX0_findChamber 42 = .ok (.ireturn, 1) := by decide +kernel
set_option maxRecDepth 20000 in
theorem ggX0_findPassage_X0_addDoor : GoodIn wsX0_findPassage wsX0_addDoor := goodIn_r _ [10, 11, 12, 13, 14, 15, 16, 17, 18, 19, 20, 21, 22, 23, 24, 25, 26, 27] (by decide +kernel) (by decide +kernel)
set_option maxRecDepth 20000 in
theorem gX0_findPassage_X0_addDoor : GoodIn wsX0_findPassage (wsV RX0 64 RX0 yX0_addDoor wsX0_addDoor) := goodIn_app (goodIn_of _ (by decide +kernel)) ggX0_findPassage_X0_addDoor
theorem dX0_findPassage_0 : decode cX0_findPassage 0 = .ok (.aload_n 0, 1) := by decide +kernel
theorem dX0_findPassage_1 : decode cX0_findPassage 1 = .ok (.getfield 54, 3) := by decide +kernel
theorem dX0_findPassage_4 : decode cX0_findPassage 4 = .ok (.istore 5, 2) := by decide +kernel
theorem dX0_findPassage_6 : decode cX0_findPassage 6 = .ok (.aload_n 0, 1) := by decide +kernel
theorem dX0_findPassage_7 : decode cX0_findPassage 7 = .ok (.getfield 35, 3) := by decide +kernel
theorem dX0_findPassage_10 : decode cX0_findPassage 10 = .ok (.iload 5, 2) := by decide +kernel
theorem dX0_findPassage_12 : decode cX0_findPassage 12 = .ok (.iload_n 1, 1) := by decide +kernel
theorem dX0_findPassage_13 : decode cX0_findPassage 13 = .ok (.iastore, 1) := by decide +kernel
theorem dX0_findPassage_14 : decode cX0_findPassage 14 = .ok (.aload_n 0, 1) := by decide +kernel
theorem dX0_findPassage_15 : decode cX0_findPassage 15 = .ok (.getfield 38, 3) := by decide +kernel
theorem dX0_findPassage_18 : decode cX0_findPassage 18 = .ok (.iload 5, 2) := by decide +kernel
theorem dX0_findPassage_20 : decode cX0_findPassage 20 = .ok (.iload_n 2, 1) := by decide +kernel
theorem dX0_findPassage_21 : decode cX0_findPassage 21 = .ok (.iastore, 1) := by decide +kernel
theorem dX0_findPassage_22 : decode cX0_findPassage 22 = .ok (.aload_n 0, 1) := by decide +kernel
theorem dX0_findPassage_23 : decode cX0_findPassage 23 = .ok (.getfield 41, 3) := by decide +kernel
theorem dX0_findPassage_26 : decode cX0_findPassage 26 = .ok (.iload 5, 2) := by decide +kernel
theorem dX0_findPassage_28 : decode cX0_findPassage 28 = .ok (.iload_n 3, 1) := by decide +kernel
theorem dX0_findPassage_29 : decode cX0_findPassage 29 = .ok (.iastore, 1) := by decide +kernel
theorem dX0_findPassage_30 : decode cX0_findPassage 30 = .ok (.aload_n 0, 1) := by decide +kernel
theorem dX0_findPassage_31 : decode cX0_findPassage 31 = .ok (.getfield 44, 3) := by decide +kernel
theorem dX0_findPassage_34 : decode cX0_findPassage 34 = .ok (.iload 5, 2) := by decide +kernel
theorem dX0_findPassage_36 : decode cX0_findPassage 36 = .ok (.iload 4, 2) := by decide +kernel
theorem dX0_findPassage_38 : decode cX0_findPassage 38 = .ok (.iastore, 1) := by decide +kernel
theorem dX0_findPassage_39 : decode cX0_findPassage 39 = .ok (.aload_n 0, 1) := by decide +kernel
theorem dX0_findPassage_40 : decode cX0_findPassage 40 = .ok (.iload_n 1, 1) := by decide +kernel
theorem dX0_findPassage_41 : decode cX0_findPassage 41 = .ok (.iload 5, 2) := by decide +kernel
theorem dX0_findPassage_43 : decode cX0_findPassage 43 = .ok (.invokevirtual 64, 3) := by decide +kernel
theorem dX0_findPassage_46 : decode cX0_findPassage 46 = .ok (.aload_n 0, 1) := by decide +kernel
theorem dX0_findPassage_47 : decode cX0_findPassage 47 = .ok (.iload_n 2, 1) := by decide +kernel
theorem dX0_findPassage_48 : decode cX0_findPassage 48 = .ok (.iload 5, 2) := by decide +kernel
theorem dX0_findPassage_50 : decode cX0_findPassage 50 = .ok (.invokevirtual 64, 3) := by decide +kernel
theorem dX0_findPassage_53 : decode cX0_findPassage 53 = .ok (.aload_n 0, 1) := by decide +kernel
theorem dX0_findPassage_54 : decode cX0_findPassage 54 = .ok (.dup, 1) := by decide +kernel
theorem dX0_findPassage_55 : decode cX0_findPassage 55 = .ok (.getfield 54, 3) := by decide +kernel
theorem dX0_findPassage_58 : decode cX0_findPassage 58 = .ok (.iconst 1, 1) := by decide +kernel
theorem dX0_findPassage_59 : decode cX0_findPassage 59 = .ok (.iadd, 1) := by decide +kernel
theorem dX0_findPassage_60 : decode cX0_findPassage 60 = .ok (.putfield 54, 3) := by decide +kernel
theorem dX0_findPassage_63 : decode cX0_findPassage 63 = .ok (.iload 5, 2) := by decide +kernel
theorem dX0_findPassage_65 : decode cX0_findPassage 65 = .ok (.ireturn, 1) := by decide +kernel
theorem dX0_addDoor_0 : decode cX0_addDoor 0 = .ok (.aload_n 0, 1) := by decide +kernel
theorem dX0_addDoor_1 : decode cX0_addDoor 1 = .ok (.getfield 27, 3) := by decide +kernel
theorem dX0_addDoor_4 : decode cX0_addDoor 4 = .ok (.iload_n 1, 1) := by decide +kernel
theorem dX0_addDoor_5 : decode cX0_addDoor 5 = .ok (.iaload, 1) := by decide +kernel
theorem dX0_addDoor_6 : decode cX0_addDoor 6 = .ok (.bipush 18, 2) := by decide +kernel
theorem dX0_addDoor_8 : decode cX0_addDoor 8 = .ok (.if_icmp .ge 27, 3) := by decide +kernel
theorem dX0_addDoor_11 : decode cX0_addDoor 11 = .ok (.aload_n 0, 1) := by decide +kernel
theorem dX0_addDoor_12 : decode cX0_addDoor 12 = .ok (.getfield 32, 3) := by decide +kernel
theorem dX0_addDoor_15 : decode cX0_addDoor 15 = .ok (.iload_n 1, 1) := by decide +kernel
theorem dX0_addDoor_16 : decode cX0_addDoor 16 = .ok (.aaload, 1) := by decide +kernel
theorem dX0_addDoor_17 : decode cX0_addDoor 17 = .ok (.aload_n 0, 1) := by decide +kernel
theorem dX0_addDoor_18 : decode cX0_addDoor 18 = .ok (.getfield 27, 3) := by decide +kernel
theorem dX0_addDoor_21 : decode cX0_addDoor 21 = .ok (.iload_n 1, 1) := by decide +kernel
theorem dX0_addDoor_22 : decode cX0_addDoor 22 = .ok (.iaload, 1) := by decide +kernel
theorem dX0_addDoor_23 : decode cX0_addDoor 23 = .ok (.iload_n 2, 1) := by decide +kernel
theorem dX0_addDoor_24 : decode cX0_addDoor 24 = .ok (.iastore, 1) := by decide +kernel
theorem dX0_addDoor_25 : decode cX0_addDoor 25 = .ok (.aload_n 0, 1) := by decide +kernel
theorem dX0_addDoor_26 : decode cX0_addDoor 26 = .ok (.getfield 27, 3) := by decide +kernel
theorem dX0_addDoor_29 : decode cX0_addDoor 29 = .ok (.iload_n 1, 1) := by decide +kernel
theorem dX0_addDoor_30 : decode cX0_addDoor 30 = .ok (.dup2, 1) := by decide +kernel
theorem dX0_addDoor_31 : decode cX0_addDoor 31 = .ok (.iaload, 1) := by decide +kernel
theorem dX0_addDoor_32 : decode cX0_addDoor 32 = .ok (.iconst 1, 1) := by decide +kernel
theorem dX0_addDoor_33 : decode cX0_addDoor 33 = .ok (.iadd, 1) := by decide +kernel
theorem dX0_addDoor_34 : decode cX0_addDoor 34 = .ok (.iastore, 1) := by decide +kernel
theorem dX0_addDoor_35 : decode cX0_addDoor 35 = .ok (.return_, 1) := by decide +kernel
theorem dX0_putClapper_0 : decode cX0_putClapper 0 = .ok (.aload_n 0, 1) := by decide +kernel
theorem dX0_putClapper_1 : decode cX0_putClapper 1 = .ok (.getfield 21, 3) := by decide +kernel
theorem dX0_putClapper_4 : decode cX0_putClapper 4 = .ok (.iload_n 1, 1) := by decide +kernel
theorem dX0_putClapper_5 : decode cX0_putClapper 5 = .ok (.iload_n 2, 1) := by decide +kernel
theorem dX0_putClapper_6 : decode cX0_putClapper 6 = .ok (.iastore, 1) := by decide +kernel
theorem dX0_putClapper_7 : decode cX0_putClapper 7 = .ok (.aload_n 0, 1) := by decide +kernel
theorem dX0_putClapper_8 : decode cX0_putClapper 8 = .ok (.getfield 24, 3) := by decide +kernel
theorem dX0_putClapper_11 : decode cX0_putClapper 11 = .ok (.iload_n 1, 1) := by decide +kernel
theorem dX0_putClapper_12 : decode cX0_putClapper 12 = .ok (.iload_n 2, 1) := by decide +kernel
theorem dX0_putClapper_13 : decode cX0_putClapper 13 = .ok (.ifCond .ne 7, 3) := by decide +kernel
theorem dX0_putClapper_16 : decode cX0_putClapper 16 = .ok (.iconst 0, 1) := by decide +kernel
theorem dX0_putClapper_17 : decode cX0_putClapper 17 = .ok (.goto 4, 3) := by decide +kernel
theorem dX0_putClapper_20 : decode cX0_putClapper 20 = .ok (.iload_n 3, 1) := by decide +kernel
theorem dX0_putClapper_21 : decode cX0_putClapper 21 = .ok (.iastore, 1) := by decide +kernel
theorem dX0_putClapper_22 : decode cX0_putClapper 22 = .ok (.return_, 1) := by decide +kernel
theorem dX0_isOpen_0 : decode cX0_isOpen 0 = .ok (.aload_n 0, 1) := by decide +kernel
theorem dX0_isOpen_1 : decode cX0_isOpen 1 = .ok (.getfield 15, 3) := by decide +kernel
theorem dX0_isOpen_4 : decode cX0_isOpen 4 = .ok (.aload_n 0, 1) := by decide +kernel
theorem dX0_isOpen_5 : decode cX0_isOpen 5 = .ok (.getfield 35, 3) := by decide +kernel
theorem dX0_isOpen_8 : decode cX0_isOpen 8 = .ok (.iload_n 1, 1) := by decide +kernel
theorem dX0_isOpen_9 : decode cX0_isOpen 9 = .ok (.iaload, 1) := by decide +kernel
theorem dX0_isOpen_10 : decode cX0_isOpen 10 = .ok (.iaload, 1) := by decide +kernel
theorem dX0_isOpen_11 : decode cX0_isOpen 11 = .ok (.aload_n 0, 1) := by decide +kernel
theorem dX0_isOpen_12 : decode cX0_isOpen 12 = .ok (.getfield 57, 3) := by decide +kernel
theorem dX0_isOpen_15 : decode cX0_isOpen 15 = .ok (.if_icmp .lt 25, 3) := by decide +kernel
theorem dX0_isOpen_18 : decode cX0_isOpen 18 = .ok (.aload_n 0, 1) := by decide +kernel
theorem dX0_isOpen_19 : decode cX0_isOpen 19 = .ok (.getfield 15, 3) := by decide +kernel
theorem dX0_isOpen_22 : decode cX0_isOpen 22 = .ok (.aload_n 0, 1) := by decide +kernel
theorem dX0_isOpen_23 : decode cX0_isOpen 23 = .ok (.getfield 38, 3) := by decide +kernel
theorem dX0_isOpen_26 : decode cX0_isOpen 26 = .ok (.iload_n 1, 1) := by decide +kernel
theorem dX0_isOpen_27 : decode cX0_isOpen 27 = .ok (.iaload, 1) := by decide +kernel
theorem dX0_isOpen_28 : decode cX0_isOpen 28 = .ok (.iaload, 1) := by decide +kernel
theorem dX0_isOpen_29 : decode cX0_isOpen 29 = .ok (.aload_n 0, 1) := by decide +kernel
theorem dX0_isOpen_30 : decode cX0_isOpen 30 = .ok (.getfield 57, 3) := by decide +kernel
theorem dX0_isOpen_33 : decode cX0_isOpen 33 = .ok (.if_icmp .lt 7, 3) := by decide +kernel
theorem dX0_isOpen_36 : decode cX0_isOpen 36 = .ok (.iconst 1, 1) := by decide +kernel
theorem dX0_isOpen_37 : decode cX0_isOpen 37 = .ok (.goto 4, 3) := by decide +kernel
theorem dX0_isOpen_40 : decode cX0_isOpen 40 = .ok (.iconst 0, 1) := by decide +kernel
theorem dX0_isOpen_41 : decode cX0_isOpen 41 = .ok (.ireturn, 1) := by decide +kernel
theorem dX0_otherEnd_0 : decode cX0_otherEnd 0 = .ok (.aload_n 0, 1) := by decide +kernel
theorem dX0_otherEnd_1 : decode cX0_otherEnd 1 = .ok (.getfield 35, 3) := by decide +kernel
theorem dX0_otherEnd_4 : decode cX0_otherEnd 4 = .ok (.iload_n 1, 1) := by decide +kernel
theorem dX0_otherEnd_5 : decode cX0_otherEnd 5 = .ok (.iaload, 1) := by decide +kernel
theorem dX0_otherEnd_6 : decode cX0_otherEnd 6 = .ok (.iload_n 2, 1) := by decide +kernel
theorem dX0_otherEnd_7 : decode cX0_otherEnd 7 = .ok (.if_icmp .ne 12, 3) := by decide +kernel
theorem dX0_otherEnd_10 : decode cX0_otherEnd 10 = .ok (.aload_n 0, 1) := by decide +kernel
theorem dX0_otherEnd_11 : decode cX0_otherEnd 11 = .ok (.getfield 38, 3) := by decide +kernel
theorem dX0_otherEnd_14 : decode cX0_otherEnd 14 = .ok (.iload_n 1, 1) := by decide +kernel
theorem dX0_otherEnd_15 : decode cX0_otherEnd 15 = .ok (.iaload, 1) := by decide +kernel
theorem dX0_otherEnd_16 : decode cX0_otherEnd 16 = .ok (.goto 9, 3) := by decide +kernel
theorem dX0_otherEnd_19 : decode cX0_otherEnd 19 = .ok (.aload_n 0, 1) := by decide +kernel
theorem dX0_otherEnd_20 : decode cX0_otherEnd 20 = .ok (.getfield 35, 3) := by decide +kernel
theorem dX0_otherEnd_23 : decode cX0_otherEnd 23 = .ok (.iload_n 1, 1) := by decide +kernel
theorem dX0_otherEnd_24 : decode cX0_otherEnd 24 = .ok (.iaload, 1) := by decide +kernel
theorem dX0_otherEnd_25 : decode cX0_otherEnd 25 = .ok (.ireturn, 1) := by decide +kernel
theorem dX0_drowns_0 : decode cX0_drowns 0 = .ok (.iload_n 2, 1) := by decide +kernel
theorem dX0_drowns_1 : decode cX0_drowns 1 = .ok (.iconst 2, 1) := by decide +kernel
theorem dX0_drowns_2 : decode cX0_drowns 2 = .ok (.aload_n 0, 1) := by decide +kernel
theorem dX0_drowns_3 : decode cX0_drowns 3 = .ok (.getfield 18, 3) := by decide +kernel
theorem dX0_drowns_6 : decode cX0_drowns 6 = .ok (.iload_n 1, 1) := by decide +kernel
theorem dX0_drowns_7 : decode cX0_drowns 7 = .ok (.iaload, 1) := by decide +kernel
theorem dX0_drowns_8 : decode cX0_drowns 8 = .ok (.imul, 1) := by decide +kernel
theorem dX0_drowns_9 : decode cX0_drowns 9 = .ok (.iconst 1, 1) := by decide +kernel
theorem dX0_drowns_10 : decode cX0_drowns 10 = .ok (.iadd, 1) := by decide +kernel
theorem dX0_drowns_11 : decode cX0_drowns 11 = .ok (.if_icmp .ge 7, 3) := by decide +kernel
theorem dX0_drowns_14 : decode cX0_drowns 14 = .ok (.iconst 1, 1) := by decide +kernel
theorem dX0_drowns_15 : decode cX0_drowns 15 = .ok (.goto 4, 3) := by decide +kernel
theorem dX0_drowns_18 : decode cX0_drowns 18 = .ok (.iconst 0, 1) := by decide +kernel
theorem dX0_drowns_19 : decode cX0_drowns 19 = .ok (.ireturn, 1) := by decide +kernel
theorem dX0_strengthBehind_0 : decode cX0_strengthBehind 0 = .ok (.iload_n 2, 1) := by decide +kernel
theorem dX0_strengthBehind_1 : decode cX0_strengthBehind 1 = .ok (.bipush 90, 2) := by decide +kernel
theorem dX0_strengthBehind_3 : decode cX0_strengthBehind 3 = .ok (.iconst 5, 1) := by decide +kernel
theorem dX0_strengthBehind_4 : decode cX0_strengthBehind 4 = .ok (.aload_n 0, 1) := by decide +kernel
theorem dX0_strengthBehind_5 : decode cX0_strengthBehind 5 = .ok (.getfield 44, 3) := by decide +kernel
theorem dX0_strengthBehind_8 : decode cX0_strengthBehind 8 = .ok (.iload_n 1, 1) := by decide +kernel
theorem dX0_strengthBehind_9 : decode cX0_strengthBehind 9 = .ok (.iaload, 1) := by decide +kernel
theorem dX0_strengthBehind_10 : decode cX0_strengthBehind 10 = .ok (.imul, 1) := by decide +kernel
theorem dX0_strengthBehind_11 : decode cX0_strengthBehind 11 = .ok (.isub, 1) := by decide +kernel
theorem dX0_strengthBehind_12 : decode cX0_strengthBehind 12 = .ok (.imul, 1) := by decide +kernel
theorem dX0_strengthBehind_13 : decode cX0_strengthBehind 13 = .ok (.bipush 100, 2) := by decide +kernel
theorem dX0_strengthBehind_15 : decode cX0_strengthBehind 15 = .ok (.idiv, 1) := by decide +kernel
theorem dX0_strengthBehind_16 : decode cX0_strengthBehind 16 = .ok (.ireturn, 1) := by decide +kernel
theorem dX0_strengthFromWall_0 : decode cX0_strengthFromWall 0 = .ok (.iload_n 2, 1) := by decide +kernel
theorem dX0_strengthFromWall_1 : decode cX0_strengthFromWall 1 = .ok (.aload_n 0, 1) := by decide +kernel
theorem dX0_strengthFromWall_2 : decode cX0_strengthFromWall 2 = .ok (.getfield 9, 3) := by decide +kernel
theorem dX0_strengthFromWall_5 : decode cX0_strengthFromWall 5 = .ok (.iload_n 1, 1) := by decide +kernel
theorem dX0_strengthFromWall_6 : decode cX0_strengthFromWall 6 = .ok (.iaload, 1) := by decide +kernel
theorem dX0_strengthFromWall_7 : decode cX0_strengthFromWall 7 = .ok (.imul, 1) := by decide +kernel
theorem dX0_strengthFromWall_8 : decode cX0_strengthFromWall 8 = .ok (.bipush 100, 2) := by decide +kernel
theorem dX0_strengthFromWall_10 : decode cX0_strengthFromWall 10 = .ok (.idiv, 1) := by decide +kernel
theorem dX0_strengthFromWall_11 : decode cX0_strengthFromWall 11 = .ok (.ireturn, 1) := by decide +kernel
set_option maxRecDepth 20000 in
theorem ggX0_openPassages_X0_isOpen : GoodIn wsX0_openPassages wsX0_isOpen := goodIn_r _ [6, 7, 8, 9, 10, 11, 12, 13, 14, 15, 16, 17, 18, 19, 20, 21, 22, 23, 24, 25] (by decide +kernel) (by decide +kernel)
set_option maxRecDepth 20000 in
theorem gX0_openPassages_X0_isOpen : GoodIn wsX0_openPassages (wsV RX0 68 RX0 yX0_isOpen wsX0_isOpen) := goodIn_app (goodIn_of _ (by decide +kernel)) ggX0_openPassages_X0_isOpen
theorem dX0_openPassages_0 : decode cX0_openPassages 0 = .ok (.iconst 0, 1) := by decide +kernel
theorem dX0_openPassages_1 : decode cX0_openPassages 1 = .ok (.istore_n 1, 1) := by decide +kernel
theorem dX0_openPassages_2 : decode cX0_openPassages 2 = .ok (.iconst 0, 1) := by decide +kernel
theorem dX0_openPassages_3 : decode cX0_openPassages 3 = .ok (.istore_n 2, 1) := by decide +kernel
theorem dX0_openPassages_4 : decode cX0_openPassages 4 = .ok (.iload_n 2, 1) := by decide +kernel
theorem dX0_openPassages_5 : decode cX0_openPassages 5 = .ok (.aload_n 0, 1) := by decide +kernel
theorem dX0_openPassages_6 : decode cX0_openPassages 6 = .ok (.getfield 54, 3) := by decide +kernel
theorem dX0_openPassages_9 : decode cX0_openPassages 9 = .ok (.if_icmp .ge 20, 3) := by decide +kernel
theorem dX0_openPassages_12 : decode cX0_openPassages 12 = .ok (.aload_n 0, 1) := by decide +kernel
theorem dX0_openPassages_13 : decode cX0_openPassages 13 = .ok (.iload_n 2, 1) := by decide +kernel
theorem dX0_openPassages_14 : decode cX0_openPassages 14 = .ok (.invokevirtual 68, 3) := by decide +kernel
theorem dX0_openPassages_17 : decode cX0_openPassages 17 = .ok (.ifCond .eq 6, 3) := by decide +kernel
theorem dX0_openPassages_20 : decode cX0_openPassages 20 = .ok (.iinc 1 1, 3) := by decide +kernel
theorem dX0_openPassages_23 : decode cX0_openPassages 23 = .ok (.iinc 2 1, 3) := by decide +kernel
theorem dX0_openPassages_26 : decode cX0_openPassages 26 = .ok (.goto (-22), 3) := by decide +kernel
theorem dX0_openPassages_29 : decode cX0_openPassages 29 = .ok (.iload_n 1, 1) := by decide +kernel
theorem dX0_openPassages_30 : decode cX0_openPassages 30 = .ok (.ireturn, 1) := by decide +kernel
theorem dX0_clappers_0 : decode cX0_clappers 0 = .ok (.iconst 0, 1) := by decide +kernel
theorem dX0_clappers_1 : decode cX0_clappers 1 = .ok (.istore_n 1, 1) := by decide +kernel
theorem dX0_clappers_2 : decode cX0_clappers 2 = .ok (.iconst 0, 1) := by decide +kernel
theorem dX0_clappers_3 : decode cX0_clappers 3 = .ok (.istore_n 2, 1) := by decide +kernel
theorem dX0_clappers_4 : decode cX0_clappers 4 = .ok (.iload_n 2, 1) := by decide +kernel
theorem dX0_clappers_5 : decode cX0_clappers 5 = .ok (.aload_n 0, 1) := by decide +kernel
theorem dX0_clappers_6 : decode cX0_clappers 6 = .ok (.getfield 50, 3) := by decide +kernel
theorem dX0_clappers_9 : decode cX0_clappers 9 = .ok (.if_icmp .ge 21, 3) := by decide +kernel
theorem dX0_clappers_12 : decode cX0_clappers 12 = .ok (.aload_n 0, 1) := by decide +kernel
theorem dX0_clappers_13 : decode cX0_clappers 13 = .ok (.getfield 21, 3) := by decide +kernel
theorem dX0_clappers_16 : decode cX0_clappers 16 = .ok (.iload_n 2, 1) := by decide +kernel
theorem dX0_clappers_17 : decode cX0_clappers 17 = .ok (.iaload, 1) := by decide +kernel
theorem dX0_clappers_18 : decode cX0_clappers 18 = .ok (.ifCond .eq 6, 3) := by decide +kernel
theorem dX0_clappers_21 : decode cX0_clappers 21 = .ok (.iinc 1 1, 3) := by decide +kernel
theorem dX0_clappers_24 : decode cX0_clappers 24 = .ok (.iinc 2 1, 3) := by decide +kernel
theorem dX0_clappers_27 : decode cX0_clappers 27 = .ok (.goto (-23), 3) := by decide +kernel
theorem dX0_clappers_30 : decode cX0_clappers 30 = .ok (.iload_n 1, 1) := by decide +kernel
theorem dX0_clappers_31 : decode cX0_clappers 31 = .ok (.ireturn, 1) := by decide +kernel
set_option maxRecDepth 20000 in
theorem ggX0_openDoors_X0_isOpen : GoodIn wsX0_openDoors wsX0_isOpen := goodIn_r _ [7, 8, 9, 10, 11, 12, 13, 14, 15, 16, 17, 18, 19, 20, 21, 22, 23, 24, 25, 26] (by decide +kernel) (by decide +kernel)
set_option maxRecDepth 20000 in
theorem gX0_openDoors_X0_isOpen : GoodIn wsX0_openDoors (wsV RX0 68 RX0 yX0_isOpen wsX0_isOpen) := goodIn_app (goodIn_of _ (by decide +kernel)) ggX0_openDoors_X0_isOpen
theorem dX0_openDoors_0 : decode cX0_openDoors 0 = .ok (.iconst 0, 1) := by decide +kernel
theorem dX0_openDoors_1 : decode cX0_openDoors 1 = .ok (.istore_n 2, 1) := by decide +kernel
theorem dX0_openDoors_2 : decode cX0_openDoors 2 = .ok (.iconst 0, 1) := by decide +kernel
theorem dX0_openDoors_3 : decode cX0_openDoors 3 = .ok (.istore_n 3, 1) := by decide +kernel
theorem dX0_openDoors_4 : decode cX0_openDoors 4 = .ok (.iload_n 3, 1) := by decide +kernel
theorem dX0_openDoors_5 : decode cX0_openDoors 5 = .ok (.aload_n 0, 1) := by decide +kernel
theorem dX0_openDoors_6 : decode cX0_openDoors 6 = .ok (.getfield 27, 3) := by decide +kernel
theorem dX0_openDoors_9 : decode cX0_openDoors 9 = .ok (.iload_n 1, 1) := by decide +kernel
theorem dX0_openDoors_10 : decode cX0_openDoors 10 = .ok (.iaload, 1) := by decide +kernel
theorem dX0_openDoors_11 : decode cX0_openDoors 11 = .ok (.if_icmp .ge 27, 3) := by decide +kernel
theorem dX0_openDoors_14 : decode cX0_openDoors 14 = .ok (.aload_n 0, 1) := by decide +kernel
theorem dX0_openDoors_15 : decode cX0_openDoors 15 = .ok (.aload_n 0, 1) := by decide +kernel
theorem dX0_openDoors_16 : decode cX0_openDoors 16 = .ok (.getfield 32, 3) := by decide +kernel
theorem dX0_openDoors_19 : decode cX0_openDoors 19 = .ok (.iload_n 1, 1) := by decide +kernel
theorem dX0_openDoors_20 : decode cX0_openDoors 20 = .ok (.aaload, 1) := by decide +kernel
theorem dX0_openDoors_21 : decode cX0_openDoors 21 = .ok (.iload_n 3, 1) := by decide +kernel
theorem dX0_openDoors_22 : decode cX0_openDoors 22 = .ok (.iaload, 1) := by decide +kernel
theorem dX0_openDoors_23 : decode cX0_openDoors 23 = .ok (.invokevirtual 68, 3) := by decide +kernel
theorem dX0_openDoors_26 : decode cX0_openDoors 26 = .ok (.ifCond .eq 6, 3) := by decide +kernel
theorem dX0_openDoors_29 : decode cX0_openDoors 29 = .ok (.iinc 2 1, 3) := by decide +kernel
theorem dX0_openDoors_32 : decode cX0_openDoors 32 = .ok (.iinc 3 1, 3) := by decide +kernel
theorem dX0_openDoors_35 : decode cX0_openDoors 35 = .ok (.goto (-31), 3) := by decide +kernel
theorem dX0_openDoors_38 : decode cX0_openDoors 38 = .ok (.iload_n 2, 1) := by decide +kernel
theorem dX0_openDoors_39 : decode cX0_openDoors 39 = .ok (.ireturn, 1) := by decide +kernel
set_option maxRecDepth 20000 in
theorem ggX0_chamberFact_X0_openDoors : GoodIn wsX0_chamberFact wsX0_openDoors := goodIn_r _ [11, 6, 12, 13, 14, 15, 10, 16, 2, 17, 18, 19, 20, 21, 22, 23, 24, 25, 26, 27, 28, 29, 30, 31, 32, 33, 34] (by decide +kernel) (by decide +kernel)
set_option maxRecDepth 20000 in
theorem gX0_chamberFact_X0_openDoors : GoodIn wsX0_chamberFact (wsV RX0 72 RX0 yX0_openDoors wsX0_openDoors) := goodIn_app (goodIn_of _ (by decide +kernel)) ggX0_chamberFact_X0_openDoors
theorem dX0_chamberFact_0 : decode cX0_chamberFact 0 = .ok (.iload_n 2, 1) := by decide +kernel
theorem dX0_chamberFact_1 : decode cX0_chamberFact 1 = .ok (.tableswitch 81 0 5 #[39, 46, 53, 60, 67, 74], 39) := by decide +kernel
theorem dX0_chamberFact_40 : decode cX0_chamberFact 40 = .ok (.aload_n 0, 1) := by decide +kernel
theorem dX0_chamberFact_41 : decode cX0_chamberFact 41 = .ok (.getfield 9, 3) := by decide +kernel
theorem dX0_chamberFact_44 : decode cX0_chamberFact 44 = .ok (.iload_n 1, 1) := by decide +kernel
theorem dX0_chamberFact_45 : decode cX0_chamberFact 45 = .ok (.iaload, 1) := by decide +kernel
theorem dX0_chamberFact_46 : decode cX0_chamberFact 46 = .ok (.ireturn, 1) := by decide +kernel
theorem dX0_chamberFact_47 : decode cX0_chamberFact 47 = .ok (.aload_n 0, 1) := by decide +kernel
theorem dX0_chamberFact_48 : decode cX0_chamberFact 48 = .ok (.getfield 15, 3) := by decide +kernel
theorem dX0_chamberFact_51 : decode cX0_chamberFact 51 = .ok (.iload_n 1, 1) := by decide +kernel
theorem dX0_chamberFact_52 : decode cX0_chamberFact 52 = .ok (.iaload, 1) := by decide +kernel
theorem dX0_chamberFact_53 : decode cX0_chamberFact 53 = .ok (.ireturn, 1) := by decide +kernel
theorem dX0_chamberFact_54 : decode cX0_chamberFact 54 = .ok (.aload_n 0, 1) := by decide +kernel
theorem dX0_chamberFact_55 : decode cX0_chamberFact 55 = .ok (.getfield 18, 3) := by decide +kernel
theorem dX0_chamberFact_58 : decode cX0_chamberFact 58 = .ok (.iload_n 1, 1) := by decide +kernel
theorem dX0_chamberFact_59 : decode cX0_chamberFact 59 = .ok (.iaload, 1) := by decide +kernel
theorem dX0_chamberFact_60 : decode cX0_chamberFact 60 = .ok (.ireturn, 1) := by decide +kernel
theorem dX0_chamberFact_61 : decode cX0_chamberFact 61 = .ok (.aload_n 0, 1) := by decide +kernel
theorem dX0_chamberFact_62 : decode cX0_chamberFact 62 = .ok (.getfield 21, 3) := by decide +kernel
theorem dX0_chamberFact_65 : decode cX0_chamberFact 65 = .ok (.iload_n 1, 1) := by decide +kernel
theorem dX0_chamberFact_66 : decode cX0_chamberFact 66 = .ok (.iaload, 1) := by decide +kernel
theorem dX0_chamberFact_67 : decode cX0_chamberFact 67 = .ok (.ireturn, 1) := by decide +kernel
theorem dX0_chamberFact_68 : decode cX0_chamberFact 68 = .ok (.aload_n 0, 1) := by decide +kernel
theorem dX0_chamberFact_69 : decode cX0_chamberFact 69 = .ok (.getfield 24, 3) := by decide +kernel
theorem dX0_chamberFact_72 : decode cX0_chamberFact 72 = .ok (.iload_n 1, 1) := by decide +kernel
theorem dX0_chamberFact_73 : decode cX0_chamberFact 73 = .ok (.iaload, 1) := by decide +kernel
theorem dX0_chamberFact_74 : decode cX0_chamberFact 74 = .ok (.ireturn, 1) := by decide +kernel
theorem dX0_chamberFact_75 : decode cX0_chamberFact 75 = .ok (.aload_n 0, 1) := by decide +kernel
theorem dX0_chamberFact_76 : decode cX0_chamberFact 76 = .ok (.getfield 27, 3) := by decide +kernel
theorem dX0_chamberFact_79 : decode cX0_chamberFact 79 = .ok (.iload_n 1, 1) := by decide +kernel
theorem dX0_chamberFact_80 : decode cX0_chamberFact 80 = .ok (.iaload, 1) := by decide +kernel
theorem dX0_chamberFact_81 : decode cX0_chamberFact 81 = .ok (.ireturn, 1) := by decide +kernel
theorem dX0_chamberFact_82 : decode cX0_chamberFact 82 = .ok (.aload_n 0, 1) := by decide +kernel
theorem dX0_chamberFact_83 : decode cX0_chamberFact 83 = .ok (.iload_n 1, 1) := by decide +kernel
theorem dX0_chamberFact_84 : decode cX0_chamberFact 84 = .ok (.invokevirtual 72, 3) := by decide +kernel
theorem dX0_chamberFact_87 : decode cX0_chamberFact 87 = .ok (.ireturn, 1) := by decide +kernel
set_option maxRecDepth 20000 in
theorem ggX0_passageFact_X0_isOpen : GoodIn wsX0_passageFact wsX0_isOpen := goodIn_r _ [9, 10, 1, 11, 2, 12, 13, 14, 15, 16, 17, 18, 19, 20, 21, 22, 23, 24, 25, 26] (by decide +kernel) (by decide +kernel)
set_option maxRecDepth 20000 in
theorem gX0_passageFact_X0_isOpen : GoodIn wsX0_passageFact (wsV RX0 68 RX0 yX0_isOpen wsX0_isOpen) := goodIn_app (goodIn_of _ (by decide +kernel)) ggX0_passageFact_X0_isOpen
theorem dX0_passageFact_0 : decode cX0_passageFact 0 = .ok (.iload_n 2, 1) := by decide +kernel
theorem dX0_passageFact_1 : decode cX0_passageFact 1 = .ok (.tableswitch 59 0 3 #[31, 38, 45, 52], 31) := by decide +kernel
theorem dX0_passageFact_32 : decode cX0_passageFact 32 = .ok (.aload_n 0, 1) := by decide +kernel
theorem dX0_passageFact_33 : decode cX0_passageFact 33 = .ok (.getfield 35, 3) := by decide +kernel
theorem dX0_passageFact_36 : decode cX0_passageFact 36 = .ok (.iload_n 1, 1) := by decide +kernel
theorem dX0_passageFact_37 : decode cX0_passageFact 37 = .ok (.iaload, 1) := by decide +kernel
theorem dX0_passageFact_38 : decode cX0_passageFact 38 = .ok (.ireturn, 1) := by decide +kernel
theorem dX0_passageFact_39 : decode cX0_passageFact 39 = .ok (.aload_n 0, 1) := by decide +kernel
theorem dX0_passageFact_40 : decode cX0_passageFact 40 = .ok (.getfield 38, 3) := by decide +kernel
theorem dX0_passageFact_43 : decode cX0_passageFact 43 = .ok (.iload_n 1, 1) := by decide +kernel
theorem dX0_passageFact_44 : decode cX0_passageFact 44 = .ok (.iaload, 1) := by decide +kernel
theorem dX0_passageFact_45 : decode cX0_passageFact 45 = .ok (.ireturn, 1) := by decide +kernel
theorem dX0_passageFact_46 : decode cX0_passageFact 46 = .ok (.aload_n 0, 1) := by decide +kernel
theorem dX0_passageFact_47 : decode cX0_passageFact 47 = .ok (.getfield 41, 3) := by decide +kernel
theorem dX0_passageFact_50 : decode cX0_passageFact 50 = .ok (.iload_n 1, 1) := by decide +kernel
theorem dX0_passageFact_51 : decode cX0_passageFact 51 = .ok (.iaload, 1) := by decide +kernel
theorem dX0_passageFact_52 : decode cX0_passageFact 52 = .ok (.ireturn, 1) := by decide +kernel
theorem dX0_passageFact_53 : decode cX0_passageFact 53 = .ok (.aload_n 0, 1) := by decide +kernel
theorem dX0_passageFact_54 : decode cX0_passageFact 54 = .ok (.getfield 44, 3) := by decide +kernel
theorem dX0_passageFact_57 : decode cX0_passageFact 57 = .ok (.iload_n 1, 1) := by decide +kernel
theorem dX0_passageFact_58 : decode cX0_passageFact 58 = .ok (.iaload, 1) := by decide +kernel
theorem dX0_passageFact_59 : decode cX0_passageFact 59 = .ok (.ireturn, 1) := by decide +kernel
theorem dX0_passageFact_60 : decode cX0_passageFact 60 = .ok (.aload_n 0, 1) := by decide +kernel
theorem dX0_passageFact_61 : decode cX0_passageFact 61 = .ok (.iload_n 1, 1) := by decide +kernel
theorem dX0_passageFact_62 : decode cX0_passageFact 62 = .ok (.invokevirtual 68, 3) := by decide +kernel
theorem dX0_passageFact_65 : decode cX0_passageFact 65 = .ok (.ifCond .eq 7, 3) := by decide +kernel
theorem dX0_passageFact_68 : decode cX0_passageFact 68 = .ok (.iconst 1, 1) := by decide +kernel
theorem dX0_passageFact_69 : decode cX0_passageFact 69 = .ok (.goto 4, 3) := by decide +kernel
theorem dX0_passageFact_72 : decode cX0_passageFact 72 = .ok (.iconst 0, 1) := by decide +kernel
theorem dX0_passageFact_73 : decode cX0_passageFact 73 = .ok (.ireturn, 1) := by decide +kernel
set_option maxRecDepth 20000 in
theorem ggX0_shortestWay_J7_fill_53178 : GoodIn wsX0_shortestWay wsJ7_fill_53178 := goodIn_r _ [10] (by decide +kernel) (by decide +kernel)
set_option maxRecDepth 20000 in
theorem gX0_shortestWay_J7_fill_53178 : GoodIn wsX0_shortestWay (va_wsS RX0 76 yJ7_fill_53178 wsJ7_fill_53178) := goodIn_app (goodIn_of _ (by decide +kernel)) ggX0_shortestWay_J7_fill_53178
set_option maxRecDepth 20000 in
theorem ggX0_shortestWay_X0_isOpen : GoodIn wsX0_shortestWay wsX0_isOpen := goodIn_r _ [15, 16, 4, 17, 5, 22, 23, 24, 25, 26, 27, 28, 29, 30, 31, 32, 33, 34, 35, 36] (by decide +kernel) (by decide +kernel)
set_option maxRecDepth 20000 in
theorem gX0_shortestWay_X0_isOpen : GoodIn wsX0_shortestWay (wsV RX0 68 RX0 yX0_isOpen wsX0_isOpen) := goodIn_app (goodIn_of _ (by decide +kernel)) ggX0_shortestWay_X0_isOpen
set_option maxRecDepth 20000 in
theorem ggX0_shortestWay_X0_shorten : GoodIn wsX0_shortestWay wsX0_shorten := goodIn_r _ [21, 1, 22, 23, 24, 25, 26, 27, 28, 29, 30, 31, 32, 33, 34, 35, 36] (by decide +kernel) (by decide +kernel)
set_option maxRecDepth 20000 in
theorem gX0_shortestWay_X0_shorten : GoodIn wsX0_shortestWay (wsV RX0 82 RX0 yX0_shorten wsX0_shorten) := goodIn_app (goodIn_of _ (by decide +kernel)) ggX0_shortestWay_X0_shorten
theorem dX0_shortestWay_0 : decode cX0_shortestWay 0 = .ok (.aload_n 0, 1) := by decide +kernel
theorem dX0_shortestWay_1 : decode cX0_shortestWay 1 = .ok (.getfield 47, 3) := by decide +kernel
theorem dX0_shortestWay_4 : decode cX0_shortestWay 4 = .ok (.iconst (-1), 1) := by decide +kernel
theorem dX0_shortestWay_5 : decode cX0_shortestWay 5 = .ok (.invokestatic 76, 3) := by decide +kernel
theorem dX0_shortestWay_8 : decode cX0_shortestWay 8 = .ok (.aload_n 0, 1) := by decide +kernel
theorem dX0_shortestWay_9 : decode cX0_shortestWay 9 = .ok (.getfield 47, 3) := by decide +kernel
theorem dX0_shortestWay_12 : decode cX0_shortestWay 12 = .ok (.iload_n 1, 1) := by decide +kernel
theorem dX0_shortestWay_13 : decode cX0_shortestWay 13 = .ok (.iconst 0, 1) := by decide +kernel
theorem dX0_shortestWay_14 : decode cX0_shortestWay 14 = .ok (.iastore, 1) := by decide +kernel
theorem dX0_shortestWay_15 : decode cX0_shortestWay 15 = .ok (.iconst 1, 1) := by decide +kernel
theorem dX0_shortestWay_16 : decode cX0_shortestWay 16 = .ok (.istore_n 3, 1) := by decide +kernel
theorem dX0_shortestWay_17 : decode cX0_shortestWay 17 = .ok (.iload_n 3, 1) := by decide +kernel
theorem dX0_shortestWay_18 : decode cX0_shortestWay 18 = .ok (.aload_n 0, 1) := by decide +kernel
theorem dX0_shortestWay_19 : decode cX0_shortestWay 19 = .ok (.getfield 50, 3) := by decide +kernel
theorem dX0_shortestWay_22 : decode cX0_shortestWay 22 = .ok (.if_icmp .ge 86, 3) := by decide +kernel
theorem dX0_shortestWay_25 : decode cX0_shortestWay 25 = .ok (.iconst 0, 1) := by decide +kernel
theorem dX0_shortestWay_26 : decode cX0_shortestWay 26 = .ok (.istore 4, 2) := by decide +kernel
theorem dX0_shortestWay_28 : decode cX0_shortestWay 28 = .ok (.iload 4, 2) := by decide +kernel
theorem dX0_shortestWay_30 : decode cX0_shortestWay 30 = .ok (.aload_n 0, 1) := by decide +kernel
theorem dX0_shortestWay_31 : decode cX0_shortestWay 31 = .ok (.getfield 54, 3) := by decide +kernel
theorem dX0_shortestWay_34 : decode cX0_shortestWay 34 = .ok (.if_icmp .ge 68, 3) := by decide +kernel
theorem dX0_shortestWay_37 : decode cX0_shortestWay 37 = .ok (.aload_n 0, 1) := by decide +kernel
theorem dX0_shortestWay_38 : decode cX0_shortestWay 38 = .ok (.iload 4, 2) := by decide +kernel
theorem dX0_shortestWay_40 : decode cX0_shortestWay 40 = .ok (.invokevirtual 68, 3) := by decide +kernel
theorem dX0_shortestWay_43 : decode cX0_shortestWay 43 = .ok (.ifCond .eq 53, 3) := by decide +kernel
theorem dX0_shortestWay_46 : decode cX0_shortestWay 46 = .ok (.aload_n 0, 1) := by decide +kernel
theorem dX0_shortestWay_47 : decode cX0_shortestWay 47 = .ok (.aload_n 0, 1) := by decide +kernel
theorem dX0_shortestWay_48 : decode cX0_shortestWay 48 = .ok (.getfield 35, 3) := by decide +kernel
theorem dX0_shortestWay_51 : decode cX0_shortestWay 51 = .ok (.iload 4, 2) := by decide +kernel
theorem dX0_shortestWay_53 : decode cX0_shortestWay 53 = .ok (.iaload, 1) := by decide +kernel
theorem dX0_shortestWay_54 : decode cX0_shortestWay 54 = .ok (.aload_n 0, 1) := by decide +kernel
theorem dX0_shortestWay_55 : decode cX0_shortestWay 55 = .ok (.getfield 38, 3) := by decide +kernel
theorem dX0_shortestWay_58 : decode cX0_shortestWay 58 = .ok (.iload 4, 2) := by decide +kernel
theorem dX0_shortestWay_60 : decode cX0_shortestWay 60 = .ok (.iaload, 1) := by decide +kernel
theorem dX0_shortestWay_61 : decode cX0_shortestWay 61 = .ok (.aload_n 0, 1) := by decide +kernel
theorem dX0_shortestWay_62 : decode cX0_shortestWay 62 = .ok (.getfield 41, 3) := by decide +kernel
theorem dX0_shortestWay_65 : decode cX0_shortestWay 65 = .ok (.iload 4, 2) := by decide +kernel
theorem dX0_shortestWay_67 : decode cX0_shortestWay 67 = .ok (.iaload, 1) := by decide +kernel
theorem dX0_shortestWay_68 : decode cX0_shortestWay 68 = .ok (.invokevirtual 82, 3) := by decide +kernel
theorem dX0_shortestWay_71 : decode cX0_shortestWay 71 = .ok (.aload_n 0, 1) := by decide +kernel
theorem dX0_shortestWay_72 : decode cX0_shortestWay 72 = .ok (.aload_n 0, 1) := by decide +kernel
theorem dX0_shortestWay_73 : decode cX0_shortestWay 73 = .ok (.getfield 38, 3) := by decide +kernel
theorem dX0_shortestWay_76 : decode cX0_shortestWay 76 = .ok (.iload 4, 2) := by decide +kernel
theorem dX0_shortestWay_78 : decode cX0_shortestWay 78 = .ok (.iaload, 1) := by decide +kernel
theorem dX0_shortestWay_79 : decode cX0_shortestWay 79 = .ok (.aload_n 0, 1) := by decide +kernel
theorem dX0_shortestWay_80 : decode cX0_shortestWay 80 = .ok (.getfield 35, 3) := by decide +kernel
theorem dX0_shortestWay_83 : decode cX0_shortestWay 83 = .ok (.iload 4, 2) := by decide +kernel
theorem dX0_shortestWay_85 : decode cX0_shortestWay 85 = .ok (.iaload, 1) := by decide +kernel
theorem dX0_shortestWay_86 : decode cX0_shortestWay 86 = .ok (.aload_n 0, 1) := by decide +kernel
theorem dX0_shortestWay_87 : decode cX0_shortestWay 87 = .ok (.getfield 41, 3) := by decide +kernel
theorem dX0_shortestWay_90 : decode cX0_shortestWay 90 = .ok (.iload 4, 2) := by decide +kernel
theorem dX0_shortestWay_92 : decode cX0_shortestWay 92 = .ok (.iaload, 1) := by decide +kernel
theorem dX0_shortestWay_93 : decode cX0_shortestWay 93 = .ok (.invokevirtual 82, 3) := by decide +kernel
theorem dX0_shortestWay_96 : decode cX0_shortestWay 96 = .ok (.iinc 4 1, 3) := by decide +kernel
theorem dX0_shortestWay_99 : decode cX0_shortestWay 99 = .ok (.goto (-71), 3) := by decide +kernel
theorem dX0_shortestWay_102 : decode cX0_shortestWay 102 = .ok (.iinc 3 1, 3) := by decide +kernel
theorem dX0_shortestWay_105 : decode cX0_shortestWay 105 = .ok (.goto (-88), 3) := by decide +kernel
theorem dX0_shortestWay_108 : decode cX0_shortestWay 108 = .ok (.aload_n 0, 1) := by decide +kernel
theorem dX0_shortestWay_109 : decode cX0_shortestWay 109 = .ok (.getfield 47, 3) := by decide +kernel
theorem dX0_shortestWay_112 : decode cX0_shortestWay 112 = .ok (.iload_n 2, 1) := by decide +kernel
theorem dX0_shortestWay_113 : decode cX0_shortestWay 113 = .ok (.iaload, 1) := by decide +kernel
theorem dX0_shortestWay_114 : decode cX0_shortestWay 114 = .ok (.ireturn, 1) := by decide +kernel
theorem dX0_shorten_0 : decode cX0_shorten 0 = .ok (.aload_n 0, 1) := by decide +kernel
theorem dX0_shorten_1 : decode cX0_shorten 1 = .ok (.getfield 47, 3) := by decide +kernel
theorem dX0_shorten_4 : decode cX0_shorten 4 = .ok (.iload_n 1, 1) := by decide +kernel
theorem dX0_shorten_5 : decode cX0_shorten 5 = .ok (.iaload, 1) := by decide +kernel
theorem dX0_shorten_6 : decode cX0_shorten 6 = .ok (.ifCond .ge 4, 3) := by decide +kernel
theorem dX0_shorten_9 : decode cX0_shorten 9 = .ok (.return_, 1) := by decide +kernel
theorem dX0_shorten_10 : decode cX0_shorten 10 = .ok (.aload_n 0, 1) := by decide +kernel
theorem dX0_shorten_11 : decode cX0_shorten 11 = .ok (.getfield 47, 3) := by decide +kernel
theorem dX0_shorten_14 : decode cX0_shorten 14 = .ok (.iload_n 1, 1) := by decide +kernel
theorem dX0_shorten_15 : decode cX0_shorten 15 = .ok (.iaload, 1) := by decide +kernel
theorem dX0_shorten_16 : decode cX0_shorten 16 = .ok (.iload_n 3, 1) := by decide +kernel
theorem dX0_shorten_17 : decode cX0_shorten 17 = .ok (.iadd, 1) := by decide +kernel
theorem dX0_shorten_18 : decode cX0_shorten 18 = .ok (.istore 4, 2) := by decide +kernel
theorem dX0_shorten_20 : decode cX0_shorten 20 = .ok (.aload_n 0, 1) := by decide +kernel
theorem dX0_shorten_21 : decode cX0_shorten 21 = .ok (.getfield 47, 3) := by decide +kernel
theorem dX0_shorten_24 : decode cX0_shorten 24 = .ok (.iload_n 2, 1) := by decide +kernel
theorem dX0_shorten_25 : decode cX0_shorten 25 = .ok (.iaload, 1) := by decide +kernel
theorem dX0_shorten_26 : decode cX0_shorten 26 = .ok (.ifCond .lt 14, 3) := by decide +kernel
theorem dX0_shorten_29 : decode cX0_shorten 29 = .ok (.iload 4, 2) := by decide +kernel
theorem dX0_shorten_31 : decode cX0_shorten 31 = .ok (.aload_n 0, 1) := by decide +kernel
theorem dX0_shorten_32 : decode cX0_shorten 32 = .ok (.getfield 47, 3) := by decide +kernel
theorem dX0_shorten_35 : decode cX0_shorten 35 = .ok (.iload_n 2, 1) := by decide +kernel
theorem dX0_shorten_36 : decode cX0_shorten 36 = .ok (.iaload, 1) := by decide +kernel
theorem dX0_shorten_37 : decode cX0_shorten 37 = .ok (.if_icmp .ge 11, 3) := by decide +kernel
theorem dX0_shorten_40 : decode cX0_shorten 40 = .ok (.aload_n 0, 1) := by decide +kernel
theorem dX0_shorten_41 : decode cX0_shorten 41 = .ok (.getfield 47, 3) := by decide +kernel
theorem dX0_shorten_44 : decode cX0_shorten 44 = .ok (.iload_n 2, 1) := by decide +kernel
theorem dX0_shorten_45 : decode cX0_shorten 45 = .ok (.iload 4, 2) := by decide +kernel
theorem dX0_shorten_47 : decode cX0_shorten 47 = .ok (.iastore, 1) := by decide +kernel
theorem dX0_shorten_48 : decode cX0_shorten 48 = .ok (.return_, 1) := by decide +kernel
set_option maxRecDepth 20000 in
theorem ggX0_highestWater_J7_fill_53178 : GoodIn wsX0_highestWater wsJ7_fill_53178 := goodIn_r _ [9] (by decide +kernel) (by decide +kernel)
set_option maxRecDepth 20000 in
theorem gX0_highestWater_J7_fill_53178 : GoodIn wsX0_highestWater (va_wsS RX0 76 yJ7_fill_53178 wsJ7_fill_53178) := goodIn_app (goodIn_of _ (by decide +kernel)) ggX0_highestWater_J7_fill_53178
set_option maxRecDepth 20000 in
theorem ggX0_highestWater_X0_raise : GoodIn wsX0_highestWater wsX0_raise := goodIn_r _ [14, 15, 16, 17, 18, 19, 1, 20, 21, 22, 23, 24, 25, 26, 27, 28, 29, 30, 31, 32, 33, 34, 35, 36, 37] (by decide +kernel) (by decide +kernel)
set_option maxRecDepth 20000 in
theorem gX0_highestWater_X0_raise : GoodIn wsX0_highestWater (wsV RX0 86 RX0 yX0_raise wsX0_raise) := goodIn_app (goodIn_of _ (by decide +kernel)) ggX0_highestWater_X0_raise
theorem dX0_highestWater_0 : decode cX0_highestWater 0 = .ok (.aload_n 0, 1) := by decide +kernel
theorem dX0_highestWater_1 : decode cX0_highestWater 1 = .ok (.getfield 47, 3) := by decide +kernel
theorem dX0_highestWater_4 : decode cX0_highestWater 4 = .ok (.iconst (-1), 1) := by decide +kernel
theorem dX0_highestWater_5 : decode cX0_highestWater 5 = .ok (.invokestatic 76, 3) := by decide +kernel
theorem dX0_highestWater_8 : decode cX0_highestWater 8 = .ok (.aload_n 0, 1) := by decide +kernel
theorem dX0_highestWater_9 : decode cX0_highestWater 9 = .ok (.getfield 47, 3) := by decide +kernel
theorem dX0_highestWater_12 : decode cX0_highestWater 12 = .ok (.iconst 0, 1) := by decide +kernel
theorem dX0_highestWater_13 : decode cX0_highestWater 13 = .ok (.bipush 30, 2) := by decide +kernel
theorem dX0_highestWater_15 : decode cX0_highestWater 15 = .ok (.iastore, 1) := by decide +kernel
theorem dX0_highestWater_16 : decode cX0_highestWater 16 = .ok (.iconst 1, 1) := by decide +kernel
theorem dX0_highestWater_17 : decode cX0_highestWater 17 = .ok (.istore_n 2, 1) := by decide +kernel
theorem dX0_highestWater_18 : decode cX0_highestWater 18 = .ok (.iload_n 2, 1) := by decide +kernel
theorem dX0_highestWater_19 : decode cX0_highestWater 19 = .ok (.aload_n 0, 1) := by decide +kernel
theorem dX0_highestWater_20 : decode cX0_highestWater 20 = .ok (.getfield 50, 3) := by decide +kernel
theorem dX0_highestWater_23 : decode cX0_highestWater 23 = .ok (.if_icmp .ge 57, 3) := by decide +kernel
theorem dX0_highestWater_26 : decode cX0_highestWater 26 = .ok (.iconst 0, 1) := by decide +kernel
theorem dX0_highestWater_27 : decode cX0_highestWater 27 = .ok (.istore_n 3, 1) := by decide +kernel
theorem dX0_highestWater_28 : decode cX0_highestWater 28 = .ok (.iload_n 3, 1) := by decide +kernel
theorem dX0_highestWater_29 : decode cX0_highestWater 29 = .ok (.aload_n 0, 1) := by decide +kernel
theorem dX0_highestWater_30 : decode cX0_highestWater 30 = .ok (.getfield 54, 3) := by decide +kernel
theorem dX0_highestWater_33 : decode cX0_highestWater 33 = .ok (.if_icmp .ge 41, 3) := by decide +kernel
theorem dX0_highestWater_36 : decode cX0_highestWater 36 = .ok (.aload_n 0, 1) := by decide +kernel
theorem dX0_highestWater_37 : decode cX0_highestWater 37 = .ok (.aload_n 0, 1) := by decide +kernel
theorem dX0_highestWater_38 : decode cX0_highestWater 38 = .ok (.getfield 35, 3) := by decide +kernel
theorem dX0_highestWater_41 : decode cX0_highestWater 41 = .ok (.iload_n 3, 1) := by decide +kernel
theorem dX0_highestWater_42 : decode cX0_highestWater 42 = .ok (.iaload, 1) := by decide +kernel
theorem dX0_highestWater_43 : decode cX0_highestWater 43 = .ok (.aload_n 0, 1) := by decide +kernel
theorem dX0_highestWater_44 : decode cX0_highestWater 44 = .ok (.getfield 38, 3) := by decide +kernel
theorem dX0_highestWater_47 : decode cX0_highestWater 47 = .ok (.iload_n 3, 1) := by decide +kernel
theorem dX0_highestWater_48 : decode cX0_highestWater 48 = .ok (.iaload, 1) := by decide +kernel
theorem dX0_highestWater_49 : decode cX0_highestWater 49 = .ok (.invokevirtual 86, 3) := by decide +kernel
theorem dX0_highestWater_52 : decode cX0_highestWater 52 = .ok (.aload_n 0, 1) := by decide +kernel
theorem dX0_highestWater_53 : decode cX0_highestWater 53 = .ok (.aload_n 0, 1) := by decide +kernel
theorem dX0_highestWater_54 : decode cX0_highestWater 54 = .ok (.getfield 38, 3) := by decide +kernel
theorem dX0_highestWater_57 : decode cX0_highestWater 57 = .ok (.iload_n 3, 1) := by decide +kernel
theorem dX0_highestWater_58 : decode cX0_highestWater 58 = .ok (.iaload, 1) := by decide +kernel
theorem dX0_highestWater_59 : decode cX0_highestWater 59 = .ok (.aload_n 0, 1) := by decide +kernel
theorem dX0_highestWater_60 : decode cX0_highestWater 60 = .ok (.getfield 35, 3) := by decide +kernel
theorem dX0_highestWater_63 : decode cX0_highestWater 63 = .ok (.iload_n 3, 1) := by decide +kernel
theorem dX0_highestWater_64 : decode cX0_highestWater 64 = .ok (.iaload, 1) := by decide +kernel
theorem dX0_highestWater_65 : decode cX0_highestWater 65 = .ok (.invokevirtual 86, 3) := by decide +kernel
theorem dX0_highestWater_68 : decode cX0_highestWater 68 = .ok (.iinc 3 1, 3) := by decide +kernel
theorem dX0_highestWater_71 : decode cX0_highestWater 71 = .ok (.goto (-43), 3) := by decide +kernel
theorem dX0_highestWater_74 : decode cX0_highestWater 74 = .ok (.iinc 2 1, 3) := by decide +kernel
theorem dX0_highestWater_77 : decode cX0_highestWater 77 = .ok (.goto (-59), 3) := by decide +kernel
theorem dX0_highestWater_80 : decode cX0_highestWater 80 = .ok (.aload_n 0, 1) := by decide +kernel
theorem dX0_highestWater_81 : decode cX0_highestWater 81 = .ok (.getfield 47, 3) := by decide +kernel
theorem dX0_highestWater_84 : decode cX0_highestWater 84 = .ok (.iload_n 1, 1) := by decide +kernel
theorem dX0_highestWater_85 : decode cX0_highestWater 85 = .ok (.iaload, 1) := by decide +kernel
theorem dX0_highestWater_86 : decode cX0_highestWater 86 = .ok (.ireturn, 1) := by decide +kernel
theorem dX0_raise_0 : decode cX0_raise 0 = .ok (.aload_n 0, 1) := by decide +kernel
theorem dX0_raise_1 : decode cX0_raise 1 = .ok (.getfield 15, 3) := by decide +kernel
theorem dX0_raise_4 : decode cX0_raise 4 = .ok (.iload_n 1, 1) := by decide +kernel
theorem dX0_raise_5 : decode cX0_raise 5 = .ok (.iaload, 1) := by decide +kernel
theorem dX0_raise_6 : decode cX0_raise 6 = .ok (.aload_n 0, 1) := by decide +kernel
theorem dX0_raise_7 : decode cX0_raise 7 = .ok (.getfield 15, 3) := by decide +kernel
theorem dX0_raise_10 : decode cX0_raise 10 = .ok (.iload_n 2, 1) := by decide +kernel
theorem dX0_raise_11 : decode cX0_raise 11 = .ok (.iaload, 1) := by decide +kernel
theorem dX0_raise_12 : decode cX0_raise 12 = .ok (.invokestatic 89, 3) := by decide +kernel
theorem dX0_raise_15 : decode cX0_raise 15 = .ok (.istore_n 3, 1) := by decide +kernel
theorem dX0_raise_16 : decode cX0_raise 16 = .ok (.aload_n 0, 1) := by decide +kernel
theorem dX0_raise_17 : decode cX0_raise 17 = .ok (.getfield 47, 3) := by decide +kernel
theorem dX0_raise_20 : decode cX0_raise 20 = .ok (.iload_n 2, 1) := by decide +kernel
theorem dX0_raise_21 : decode cX0_raise 21 = .ok (.aload_n 0, 1) := by decide +kernel
theorem dX0_raise_22 : decode cX0_raise 22 = .ok (.getfield 47, 3) := by decide +kernel
theorem dX0_raise_25 : decode cX0_raise 25 = .ok (.iload_n 2, 1) := by decide +kernel
theorem dX0_raise_26 : decode cX0_raise 26 = .ok (.iaload, 1) := by decide +kernel
theorem dX0_raise_27 : decode cX0_raise 27 = .ok (.aload_n 0, 1) := by decide +kernel
theorem dX0_raise_28 : decode cX0_raise 28 = .ok (.getfield 47, 3) := by decide +kernel
theorem dX0_raise_31 : decode cX0_raise 31 = .ok (.iload_n 1, 1) := by decide +kernel
theorem dX0_raise_32 : decode cX0_raise 32 = .ok (.iaload, 1) := by decide +kernel
theorem dX0_raise_33 : decode cX0_raise 33 = .ok (.iload_n 3, 1) := by decide +kernel
theorem dX0_raise_34 : decode cX0_raise 34 = .ok (.invokestatic 89, 3) := by decide +kernel
theorem dX0_raise_37 : decode cX0_raise 37 = .ok (.invokestatic 95, 3) := by decide +kernel
theorem dX0_raise_40 : decode cX0_raise 40 = .ok (.iastore, 1) := by decide +kernel
theorem dX0_raise_41 : decode cX0_raise 41 = .ok (.return_, 1) := by decide +kernel
theorem dX1_init_0 : decode cX1_init 0 = .ok (.aload_n 0, 1) := by decide +kernel
theorem dX1_init_1 : decode cX1_init 1 = .ok (.invokespecial 5, 3) := by decide +kernel
theorem dX1_init_4 : decode cX1_init 4 = .ok (.aload_n 0, 1) := by decide +kernel
theorem dX1_init_5 : decode cX1_init 5 = .ok (.sipush 629, 3) := by decide +kernel
theorem dX1_init_8 : decode cX1_init 8 = .ok (.newarray .int, 2) := by decide +kernel
theorem dX1_init_10 : decode cX1_init 10 = .ok (.putfield 11, 3) := by decide +kernel
theorem dX1_init_13 : decode cX1_init 13 = .ok (.aload_n 0, 1) := by decide +kernel
theorem dX1_init_14 : decode cX1_init 14 = .ok (.iconst 0, 1) := by decide +kernel
theorem dX1_init_15 : decode cX1_init 15 = .ok (.putfield 15, 3) := by decide +kernel
theorem dX1_init_18 : decode cX1_init 18 = .ok (.return_, 1) := by decide +kernel
theorem dX1_pack_0 : decode cX1_pack 0 = .ok (.iload_n 0, 1) := by decide +kernel
theorem dX1_pack_1 : decode cX1_pack 1 = .ok (.bipush 21, 2) := by decide +kernel
theorem dX1_pack_3 : decode cX1_pack 3 = .ok (.ishl, 1) := by decide +kernel
theorem dX1_pack_4 : decode cX1_pack 4 = .ok (.iload_n 1, 1) := by decide +kernel
theorem dX1_pack_5 : decode cX1_pack 5 = .ok (.bipush 17, 2) := by decide +kernel
theorem dX1_pack_7 : decode cX1_pack 7 = .ok (.ishl, 1) := by decide +kernel
theorem dX1_pack_8 : decode cX1_pack 8 = .ok (.ior, 1) := by decide +kernel
theorem dX1_pack_9 : decode cX1_pack 9 = .ok (.iload_n 2, 1) := by decide +kernel
theorem dX1_pack_10 : decode cX1_pack 10 = .ok (.bipush 12, 2) := by decide +kernel
theorem dX1_pack_12 : decode cX1_pack 12 = .ok (.ishl, 1) := by decide +kernel
theorem dX1_pack_13 : decode cX1_pack 13 = .ok (.ior, 1) := by decide +kernel
theorem dX1_pack_14 : decode cX1_pack 14 = .ok (.iload_n 3, 1) := by decide +kernel
theorem dX1_pack_15 : decode cX1_pack 15 = .ok (.iconst 1, 1) := by decide +kernel
theorem dX1_pack_16 : decode cX1_pack 16 = .ok (.iadd, 1) := by decide +kernel
theorem dX1_pack_17 : decode cX1_pack 17 = .ok (.bipush 7, 2) := by decide +kernel
theorem dX1_pack_19 : decode cX1_pack 19 = .ok (.ishl, 1) := by decide +kernel
theorem dX1_pack_20 : decode cX1_pack 20 = .ok (.ior, 1) := by decide +kernel
theorem dX1_pack_21 : decode cX1_pack 21 = .ok (.iload 4, 2) := by decide +kernel
theorem dX1_pack_23 : decode cX1_pack 23 = .ok (.ior, 1) := by decide +kernel
theorem dX1_pack_24 : decode cX1_pack 24 = .ok (.ireturn, 1) := by decide +kernel
theorem dX1_timeOf_0 : decode cX1_timeOf 0 = .ok (.iload_n 0, 1) := by decide +kernel
theorem dX1_timeOf_1 : decode cX1_timeOf 1 = .ok (.bipush 21, 2) := by decide +kernel
theorem dX1_timeOf_3 : decode cX1_timeOf 3 = .ok (.ishr, 1) := by decide +kernel
theorem dX1_timeOf_4 : decode cX1_timeOf 4 = .ok (.ireturn, 1) := by decide +kernel
theorem dX1_chamberOf_0 : decode cX1_chamberOf 0 = .ok (.iload_n 0, 1) := by decide +kernel
theorem dX1_chamberOf_1 : decode cX1_chamberOf 1 = .ok (.bipush 17, 2) := by decide +kernel
theorem dX1_chamberOf_3 : decode cX1_chamberOf 3 = .ok (.ishr, 1) := by decide +kernel
theorem dX1_chamberOf_4 : decode cX1_chamberOf 4 = .ok (.bipush 15, 2) := by decide +kernel
theorem dX1_chamberOf_6 : decode cX1_chamberOf 6 = .ok (.iand, 1) := by decide +kernel
theorem dX1_chamberOf_7 : decode cX1_chamberOf 7 = .ok (.ireturn, 1) := by decide +kernel
theorem dX1_runOf_0 : decode cX1_runOf 0 = .ok (.iload_n 0, 1) := by decide +kernel
theorem dX1_runOf_1 : decode cX1_runOf 1 = .ok (.bipush 12, 2) := by decide +kernel
theorem dX1_runOf_3 : decode cX1_runOf 3 = .ok (.ishr, 1) := by decide +kernel
theorem dX1_runOf_4 : decode cX1_runOf 4 = .ok (.bipush 31, 2) := by decide +kernel
theorem dX1_runOf_6 : decode cX1_runOf 6 = .ok (.iand, 1) := by decide +kernel
theorem dX1_runOf_7 : decode cX1_runOf 7 = .ok (.ireturn, 1) := by decide +kernel
theorem dX1_passageOf_0 : decode cX1_passageOf 0 = .ok (.iload_n 0, 1) := by decide +kernel
theorem dX1_passageOf_1 : decode cX1_passageOf 1 = .ok (.bipush 7, 2) := by decide +kernel
theorem dX1_passageOf_3 : decode cX1_passageOf 3 = .ok (.ishr, 1) := by decide +kernel
theorem dX1_passageOf_4 : decode cX1_passageOf 4 = .ok (.bipush 31, 2) := by decide +kernel
theorem dX1_passageOf_6 : decode cX1_passageOf 6 = .ok (.iand, 1) := by decide +kernel
theorem dX1_passageOf_7 : decode cX1_passageOf 7 = .ok (.iconst 1, 1) := by decide +kernel
theorem dX1_passageOf_8 : decode cX1_passageOf 8 = .ok (.isub, 1) := by decide +kernel
theorem dX1_passageOf_9 : decode cX1_passageOf 9 = .ok (.ireturn, 1) := by decide +kernel
theorem dX1_strengthOf_0 : decode cX1_strengthOf 0 = .ok (.iload_n 0, 1) := by decide +kernel
theorem dX1_strengthOf_1 : decode cX1_strengthOf 1 = .ok (.bipush 127, 2) := by decide +kernel
theorem dX1_strengthOf_3 : decode cX1_strengthOf 3 = .ok (.iand, 1) := by decide +kernel
theorem dX1_strengthOf_4 : decode cX1_strengthOf 4 = .ok (.ireturn, 1) := by decide +kernel
theorem dX1_clear_0 : decode cX1_clear 0 = .ok (.aload_n 0, 1) := by decide +kernel
theorem dX1_clear_1 : decode cX1_clear 1 = .ok (.iconst 0, 1) := by decide +kernel
theorem dX1_clear_2 : decode cX1_clear 2 = .ok (.putfield 15, 3) := by decide +kernel
theorem dX1_clear_5 : decode cX1_clear 5 = .ok (.return_, 1) := by decide +kernel
theorem dX1_isEmpty_0 : decode cX1_isEmpty 0 = .ok (.aload_n 0, 1) := by decide +kernel
theorem dX1_isEmpty_1 : decode cX1_isEmpty 1 = .ok (.getfield 15, 3) := by decide +kernel
theorem dX1_isEmpty_4 : decode cX1_isEmpty 4 = .ok (.ifCond .ne 7, 3) := by decide +kernel
theorem dX1_isEmpty_7 : decode cX1_isEmpty 7 = .ok (.iconst 1, 1) := by decide +kernel
theorem dX1_isEmpty_8 : decode cX1_isEmpty 8 = .ok (.goto 4, 3) := by decide +kernel
theorem dX1_isEmpty_11 : decode cX1_isEmpty 11 = .ok (.iconst 0, 1) := by decide +kernel
theorem dX1_isEmpty_12 : decode cX1_isEmpty 12 = .ok (.ireturn, 1) := by decide +kernel
theorem dX1_put_0 : decode cX1_put 0 = .ok (.aload_n 0, 1) := by decide +kernel
theorem dX1_put_1 : decode cX1_put 1 = .ok (.getfield 15, 3) := by decide +kernel
theorem dX1_put_4 : decode cX1_put 4 = .ok (.aload_n 0, 1) := by decide +kernel
theorem dX1_put_5 : decode cX1_put 5 = .ok (.getfield 11, 3) := by decide +kernel
theorem dX1_put_8 : decode cX1_put 8 = .ok (.arraylength, 1) := by decide +kernel
theorem dX1_put_9 : decode cX1_put 9 = .ok (.if_icmp .lt 4, 3) := by decide +kernel
theorem dX1_put_12 : decode cX1_put 12 = .ok (.return_, 1) := by decide +kernel
theorem dX1_put_13 : decode cX1_put 13 = .ok (.aload_n 0, 1) := by decide +kernel
theorem dX1_put_14 : decode cX1_put 14 = .ok (.getfield 15, 3) := by decide +kernel
theorem dX1_put_17 : decode cX1_put 17 = .ok (.istore_n 2, 1) := by decide +kernel
theorem dX1_put_18 : decode cX1_put 18 = .ok (.aload_n 0, 1) := by decide +kernel
theorem dX1_put_19 : decode cX1_put 19 = .ok (.dup, 1) := by decide +kernel
theorem dX1_put_20 : decode cX1_put 20 = .ok (.getfield 15, 3) := by decide +kernel
theorem dX1_put_23 : decode cX1_put 23 = .ok (.iconst 1, 1) := by decide +kernel
theorem dX1_put_24 : decode cX1_put 24 = .ok (.iadd, 1) := by decide +kernel
theorem dX1_put_25 : decode cX1_put 25 = .ok (.putfield 15, 3) := by decide +kernel
theorem dX1_put_28 : decode cX1_put 28 = .ok (.iload_n 2, 1) := by decide +kernel
theorem dX1_put_29 : decode cX1_put 29 = .ok (.ifCond .le 42, 3) := by decide +kernel
theorem dX1_put_32 : decode cX1_put 32 = .ok (.aload_n 0, 1) := by decide +kernel
theorem dX1_put_33 : decode cX1_put 33 = .ok (.getfield 11, 3) := by decide +kernel
theorem dX1_put_36 : decode cX1_put 36 = .ok (.iload_n 2, 1) := by decide +kernel
theorem dX1_put_37 : decode cX1_put 37 = .ok (.iconst 1, 1) := by decide +kernel
theorem dX1_put_38 : decode cX1_put 38 = .ok (.isub, 1) := by decide +kernel
theorem dX1_put_39 : decode cX1_put 39 = .ok (.iconst 2, 1) := by decide +kernel
theorem dX1_put_40 : decode cX1_put 40 = .ok (.idiv, 1) := by decide +kernel
theorem dX1_put_41 : decode cX1_put 41 = .ok (.iaload, 1) := by decide +kernel
theorem dX1_put_42 : decode cX1_put 42 = .ok (.iload_n 1, 1) := by decide +kernel
theorem dX1_put_43 : decode cX1_put 43 = .ok (.if_icmp .le 28, 3) := by decide +kernel
theorem dX1_put_46 : decode cX1_put 46 = .ok (.aload_n 0, 1) := by decide +kernel
theorem dX1_put_47 : decode cX1_put 47 = .ok (.getfield 11, 3) := by decide +kernel
theorem dX1_put_50 : decode cX1_put 50 = .ok (.iload_n 2, 1) := by decide +kernel
theorem dX1_put_51 : decode cX1_put 51 = .ok (.aload_n 0, 1) := by decide +kernel
theorem dX1_put_52 : decode cX1_put 52 = .ok (.getfield 11, 3) := by decide +kernel
theorem dX1_put_55 : decode cX1_put 55 = .ok (.iload_n 2, 1) := by decide +kernel
theorem dX1_put_56 : decode cX1_put 56 = .ok (.iconst 1, 1) := by decide +kernel
theorem dX1_put_57 : decode cX1_put 57 = .ok (.isub, 1) := by decide +kernel
theorem dX1_put_58 : decode cX1_put 58 = .ok (.iconst 2, 1) := by decide +kernel
theorem dX1_put_59 : decode cX1_put 59 = .ok (.idiv, 1) := by decide +kernel
theorem dX1_put_60 : decode cX1_put 60 = .ok (.iaload, 1) := by decide +kernel
theorem dX1_put_61 : decode cX1_put 61 = .ok (.iastore, 1) := by decide +kernel
theorem dX1_put_62 : decode cX1_put 62 = .ok (.iload_n 2, 1) := by decide +kernel
theorem dX1_put_63 : decode cX1_put 63 = .ok (.iconst 1, 1) := by decide +kernel
theorem dX1_put_64 : decode cX1_put 64 = .ok (.isub, 1) := by decide +kernel
theorem dX1_put_65 : decode cX1_put 65 = .ok (.iconst 2, 1) := by decide +kernel
theorem dX1_put_66 : decode cX1_put 66 = .ok (.idiv, 1) := by decide +kernel
theorem dX1_put_67 : decode cX1_put 67 = .ok (.istore_n 2, 1) := by decide +kernel
theorem dX1_put_68 : decode cX1_put 68 = .ok (.goto (-40), 3) := by decide +kernel
theorem dX1_put_71 : decode cX1_put 71 = .ok (.aload_n 0, 1) := by decide +kernel
theorem dX1_put_72 : decode cX1_put 72 = .ok (.getfield 11, 3) := by decide +kernel
theorem dX1_put_75 : decode cX1_put 75 = .ok (.iload_n 2, 1) := by decide +kernel
theorem dX1_put_76 : decode cX1_put 76 = .ok (.iload_n 1, 1) := by decide +kernel
theorem dX1_put_77 : decode cX1_put 77 = .ok (.iastore, 1) := by decide +kernel
theorem dX1_put_78 : decode cX1_put 78 = .ok (.return_, 1) := by decide +kernel
set_option maxRecDepth 20000 in
theorem ggX1_takeNext_X1_sink : GoodIn wsX1_takeNext wsX1_sink := goodIn_r _ [7, 2, 1, 8, 9] (by decide +kernel) (by decide +kernel)
set_option maxRecDepth 20000 in
theorem gX1_takeNext_X1_sink : GoodIn wsX1_takeNext (wsV RX1 19 RX1 yX1_sink wsX1_sink) := goodIn_app (goodIn_of _ (by decide +kernel)) ggX1_takeNext_X1_sink
theorem dX1_takeNext_0 : decode cX1_takeNext 0 = .ok (.aload_n 0, 1) := by decide +kernel
theorem dX1_takeNext_1 : decode cX1_takeNext 1 = .ok (.getfield 11, 3) := by decide +kernel
theorem dX1_takeNext_4 : decode cX1_takeNext 4 = .ok (.iconst 0, 1) := by decide +kernel
theorem dX1_takeNext_5 : decode cX1_takeNext 5 = .ok (.iaload, 1) := by decide +kernel
theorem dX1_takeNext_6 : decode cX1_takeNext 6 = .ok (.istore_n 1, 1) := by decide +kernel
theorem dX1_takeNext_7 : decode cX1_takeNext 7 = .ok (.aload_n 0, 1) := by decide +kernel
theorem dX1_takeNext_8 : decode cX1_takeNext 8 = .ok (.getfield 15, 3) := by decide +kernel
theorem dX1_takeNext_11 : decode cX1_takeNext 11 = .ok (.ifCond .le 26, 3) := by decide +kernel
theorem dX1_takeNext_14 : decode cX1_takeNext 14 = .ok (.aload_n 0, 1) := by decide +kernel
theorem dX1_takeNext_15 : decode cX1_takeNext 15 = .ok (.dup, 1) := by decide +kernel
theorem dX1_takeNext_16 : decode cX1_takeNext 16 = .ok (.getfield 15, 3) := by decide +kernel
theorem dX1_takeNext_19 : decode cX1_takeNext 19 = .ok (.iconst 1, 1) := by decide +kernel
theorem dX1_takeNext_20 : decode cX1_takeNext 20 = .ok (.isub, 1) := by decide +kernel
theorem dX1_takeNext_21 : decode cX1_takeNext 21 = .ok (.putfield 15, 3) := by decide +kernel
theorem dX1_takeNext_24 : decode cX1_takeNext 24 = .ok (.aload_n 0, 1) := by decide +kernel
theorem dX1_takeNext_25 : decode cX1_takeNext 25 = .ok (.aload_n 0, 1) := by decide +kernel
theorem dX1_takeNext_26 : decode cX1_takeNext 26 = .ok (.getfield 11, 3) := by decide +kernel
theorem dX1_takeNext_29 : decode cX1_takeNext 29 = .ok (.aload_n 0, 1) := by decide +kernel
theorem dX1_takeNext_30 : decode cX1_takeNext 30 = .ok (.getfield 15, 3) := by decide +kernel
theorem dX1_takeNext_33 : decode cX1_takeNext 33 = .ok (.iaload, 1) := by decide +kernel
theorem dX1_takeNext_34 : decode cX1_takeNext 34 = .ok (.invokevirtual 19, 3) := by decide +kernel
theorem dX1_takeNext_37 : decode cX1_takeNext 37 = .ok (.iload_n 1, 1) := by decide +kernel
theorem dX1_takeNext_38 : decode cX1_takeNext 38 = .ok (.ireturn, 1) := by decide +kernel
theorem dX1_sink_0 : decode cX1_sink 0 = .ok (.iconst 0, 1) := by decide +kernel
theorem dX1_sink_1 : decode cX1_sink 1 = .ok (.istore_n 2, 1) := by decide +kernel
theorem dX1_sink_2 : decode cX1_sink 2 = .ok (.iconst 1, 1) := by decide +kernel
theorem dX1_sink_3 : decode cX1_sink 3 = .ok (.istore_n 3, 1) := by decide +kernel
theorem dX1_sink_4 : decode cX1_sink 4 = .ok (.iload_n 3, 1) := by decide +kernel
theorem dX1_sink_5 : decode cX1_sink 5 = .ok (.aload_n 0, 1) := by decide +kernel
theorem dX1_sink_6 : decode cX1_sink 6 = .ok (.getfield 15, 3) := by decide +kernel
theorem dX1_sink_9 : decode cX1_sink 9 = .ok (.if_icmp .ge 69, 3) := by decide +kernel
theorem dX1_sink_12 : decode cX1_sink 12 = .ok (.iload_n 3, 1) := by decide +kernel
theorem dX1_sink_13 : decode cX1_sink 13 = .ok (.iconst 1, 1) := by decide +kernel
theorem dX1_sink_14 : decode cX1_sink 14 = .ok (.iadd, 1) := by decide +kernel
theorem dX1_sink_15 : decode cX1_sink 15 = .ok (.aload_n 0, 1) := by decide +kernel
theorem dX1_sink_16 : decode cX1_sink 16 = .ok (.getfield 15, 3) := by decide +kernel
theorem dX1_sink_19 : decode cX1_sink 19 = .ok (.if_icmp .ge 23, 3) := by decide +kernel
theorem dX1_sink_22 : decode cX1_sink 22 = .ok (.aload_n 0, 1) := by decide +kernel
theorem dX1_sink_23 : decode cX1_sink 23 = .ok (.getfield 11, 3) := by decide +kernel
theorem dX1_sink_26 : decode cX1_sink 26 = .ok (.iload_n 3, 1) := by decide +kernel
theorem dX1_sink_27 : decode cX1_sink 27 = .ok (.iconst 1, 1) := by decide +kernel
theorem dX1_sink_28 : decode cX1_sink 28 = .ok (.iadd, 1) := by decide +kernel
theorem dX1_sink_29 : decode cX1_sink 29 = .ok (.iaload, 1) := by decide +kernel
theorem dX1_sink_30 : decode cX1_sink 30 = .ok (.aload_n 0, 1) := by decide +kernel
theorem dX1_sink_31 : decode cX1_sink 31 = .ok (.getfield 11, 3) := by decide +kernel
theorem dX1_sink_34 : decode cX1_sink 34 = .ok (.iload_n 3, 1) := by decide +kernel
theorem dX1_sink_35 : decode cX1_sink 35 = .ok (.iaload, 1) := by decide +kernel
theorem dX1_sink_36 : decode cX1_sink 36 = .ok (.if_icmp .ge 6, 3) := by decide +kernel
theorem dX1_sink_39 : decode cX1_sink 39 = .ok (.iinc 3 1, 3) := by decide +kernel
theorem dX1_sink_42 : decode cX1_sink 42 = .ok (.aload_n 0, 1) := by decide +kernel
theorem dX1_sink_43 : decode cX1_sink 43 = .ok (.getfield 11, 3) := by decide +kernel
theorem dX1_sink_46 : decode cX1_sink 46 = .ok (.iload_n 3, 1) := by decide +kernel
theorem dX1_sink_47 : decode cX1_sink 47 = .ok (.iaload, 1) := by decide +kernel
theorem dX1_sink_48 : decode cX1_sink 48 = .ok (.iload_n 1, 1) := by decide +kernel
theorem dX1_sink_49 : decode cX1_sink 49 = .ok (.if_icmp .le 6, 3) := by decide +kernel
theorem dX1_sink_52 : decode cX1_sink 52 = .ok (.goto 26, 3) := by decide +kernel
theorem dX1_sink_55 : decode cX1_sink 55 = .ok (.aload_n 0, 1) := by decide +kernel
theorem dX1_sink_56 : decode cX1_sink 56 = .ok (.getfield 11, 3) := by decide +kernel
theorem dX1_sink_59 : decode cX1_sink 59 = .ok (.iload_n 2, 1) := by decide +kernel
theorem dX1_sink_60 : decode cX1_sink 60 = .ok (.aload_n 0, 1) := by decide +kernel
theorem dX1_sink_61 : decode cX1_sink 61 = .ok (.getfield 11, 3) := by decide +kernel
theorem dX1_sink_64 : decode cX1_sink 64 = .ok (.iload_n 3, 1) := by decide +kernel
theorem dX1_sink_65 : decode cX1_sink 65 = .ok (.iaload, 1) := by decide +kernel
theorem dX1_sink_66 : decode cX1_sink 66 = .ok (.iastore, 1) := by decide +kernel
theorem dX1_sink_67 : decode cX1_sink 67 = .ok (.iload_n 3, 1) := by decide +kernel
theorem dX1_sink_68 : decode cX1_sink 68 = .ok (.istore_n 2, 1) := by decide +kernel
theorem dX1_sink_69 : decode cX1_sink 69 = .ok (.iconst 2, 1) := by decide +kernel
theorem dX1_sink_70 : decode cX1_sink 70 = .ok (.iload_n 2, 1) := by decide +kernel
theorem dX1_sink_71 : decode cX1_sink 71 = .ok (.imul, 1) := by decide +kernel
theorem dX1_sink_72 : decode cX1_sink 72 = .ok (.iconst 1, 1) := by decide +kernel
theorem dX1_sink_73 : decode cX1_sink 73 = .ok (.iadd, 1) := by decide +kernel
theorem dX1_sink_74 : decode cX1_sink 74 = .ok (.istore_n 3, 1) := by decide +kernel
theorem dX1_sink_75 : decode cX1_sink 75 = .ok (.goto (-71), 3) := by decide +kernel
theorem dX1_sink_78 : decode cX1_sink 78 = .ok (.aload_n 0, 1) := by decide +kernel
theorem dX1_sink_79 : decode cX1_sink 79 = .ok (.getfield 11, 3) := by decide +kernel
theorem dX1_sink_82 : decode cX1_sink 82 = .ok (.iload_n 2, 1) := by decide +kernel
theorem dX1_sink_83 : decode cX1_sink 83 = .ok (.iload_n 1, 1) := by decide +kernel
theorem dX1_sink_84 : decode cX1_sink 84 = .ok (.iastore, 1) := by decide +kernel
theorem dX1_sink_85 : decode cX1_sink 85 = .ok (.return_, 1) := by decide +kernel
theorem dX2_init_0 : decode cX2_init 0 = .ok (.aload_n 0, 1) := by decide +kernel
theorem dX2_init_1 : decode cX2_init 1 = .ok (.invokespecial 3, 3) := by decide +kernel
theorem dX2_init_4 : decode cX2_init 4 = .ok (.aload_n 0, 1) := by decide +kernel
theorem dX2_init_5 : decode cX2_init 5 = .ok (.sipush 300, 3) := by decide +kernel
theorem dX2_init_8 : decode cX2_init 8 = .ok (.newarray .int, 2) := by decide +kernel
theorem dX2_init_10 : decode cX2_init 10 = .ok (.putfield 9, 3) := by decide +kernel
theorem dX2_init_13 : decode cX2_init 13 = .ok (.aload_n 0, 1) := by decide +kernel
theorem dX2_init_14 : decode cX2_init 14 = .ok (.bipush 6, 2) := by decide +kernel
theorem dX2_init_16 : decode cX2_init 16 = .ok (.newarray .int, 2) := by decide +kernel
theorem dX2_init_18 : decode cX2_init 18 = .ok (.putfield 15, 3) := by decide +kernel
theorem dX2_init_21 : decode cX2_init 21 = .ok (.aload_n 0, 1) := by decide +kernel
theorem dX2_init_22 : decode cX2_init 22 = .ok (.iconst 0, 1) := by decide +kernel
theorem dX2_init_23 : decode cX2_init 23 = .ok (.putfield 18, 3) := by decide +kernel
theorem dX2_init_26 : decode cX2_init 26 = .ok (.aload_n 0, 1) := by decide +kernel
theorem dX2_init_27 : decode cX2_init 27 = .ok (.iconst 5, 1) := by decide +kernel
theorem dX2_init_28 : decode cX2_init 28 = .ok (.putfield 22, 3) := by decide +kernel
theorem dX2_init_31 : decode cX2_init 31 = .ok (.aload_n 0, 1) := by decide +kernel
theorem dX2_init_32 : decode cX2_init 32 = .ok (.iconst 0, 1) := by decide +kernel
theorem dX2_init_33 : decode cX2_init 33 = .ok (.putfield 25, 3) := by decide +kernel
theorem dX2_init_36 : decode cX2_init 36 = .ok (.aload_n 0, 1) := by decide +kernel
theorem dX2_init_37 : decode cX2_init 37 = .ok (.iconst 0, 1) := by decide +kernel
theorem dX2_init_38 : decode cX2_init 38 = .ok (.putfield 28, 3) := by decide +kernel
theorem dX2_init_41 : decode cX2_init 41 = .ok (.aload_n 0, 1) := by decide +kernel
theorem dX2_init_42 : decode cX2_init 42 = .ok (.iconst 0, 1) := by decide +kernel
theorem dX2_init_43 : decode cX2_init 43 = .ok (.putfield 31, 3) := by decide +kernel
theorem dX2_init_46 : decode cX2_init 46 = .ok (.aload_n 0, 1) := by decide +kernel
theorem dX2_init_47 : decode cX2_init 47 = .ok (.iconst (-1), 1) := by decide +kernel
theorem dX2_init_48 : decode cX2_init 48 = .ok (.putfield 34, 3) := by decide +kernel
theorem dX2_init_51 : decode cX2_init 51 = .ok (.return_, 1) := by decide +kernel
set_option maxRecDepth 20000 in
theorem ggX2_begin_J7_fill_53178 : GoodIn wsX2_begin wsJ7_fill_53178 := goodIn_r _ [11] (by decide +kernel) (by decide +kernel)
set_option maxRecDepth 20000 in
theorem gX2_begin_J7_fill_53178 : GoodIn wsX2_begin (va_wsS RX2 37 yJ7_fill_53178 wsJ7_fill_53178) := goodIn_app (goodIn_of _ (by decide +kernel)) ggX2_begin_J7_fill_53178
theorem dX2_begin_0 : decode cX2_begin 0 = .ok (.aload_n 0, 1) := by decide +kernel
theorem dX2_begin_1 : decode cX2_begin 1 = .ok (.iload_n 1, 1) := by decide +kernel
theorem dX2_begin_2 : decode cX2_begin 2 = .ok (.putfield 18, 3) := by decide +kernel
theorem dX2_begin_5 : decode cX2_begin 5 = .ok (.aload_n 0, 1) := by decide +kernel
theorem dX2_begin_6 : decode cX2_begin 6 = .ok (.iload_n 2, 1) := by decide +kernel
theorem dX2_begin_7 : decode cX2_begin 7 = .ok (.putfield 22, 3) := by decide +kernel
theorem dX2_begin_10 : decode cX2_begin 10 = .ok (.aload_n 0, 1) := by decide +kernel
theorem dX2_begin_11 : decode cX2_begin 11 = .ok (.iconst 0, 1) := by decide +kernel
theorem dX2_begin_12 : decode cX2_begin 12 = .ok (.putfield 25, 3) := by decide +kernel
theorem dX2_begin_15 : decode cX2_begin 15 = .ok (.aload_n 0, 1) := by decide +kernel
theorem dX2_begin_16 : decode cX2_begin 16 = .ok (.iconst 0, 1) := by decide +kernel
theorem dX2_begin_17 : decode cX2_begin 17 = .ok (.putfield 28, 3) := by decide +kernel
theorem dX2_begin_20 : decode cX2_begin 20 = .ok (.aload_n 0, 1) := by decide +kernel
theorem dX2_begin_21 : decode cX2_begin 21 = .ok (.iconst 0, 1) := by decide +kernel
theorem dX2_begin_22 : decode cX2_begin 22 = .ok (.putfield 31, 3) := by decide +kernel
theorem dX2_begin_25 : decode cX2_begin 25 = .ok (.aload_n 0, 1) := by decide +kernel
theorem dX2_begin_26 : decode cX2_begin 26 = .ok (.iconst (-1), 1) := by decide +kernel
theorem dX2_begin_27 : decode cX2_begin 27 = .ok (.putfield 34, 3) := by decide +kernel
theorem dX2_begin_30 : decode cX2_begin 30 = .ok (.aload_n 0, 1) := by decide +kernel
theorem dX2_begin_31 : decode cX2_begin 31 = .ok (.getfield 15, 3) := by decide +kernel
theorem dX2_begin_34 : decode cX2_begin 34 = .ok (.iconst (-1), 1) := by decide +kernel
theorem dX2_begin_35 : decode cX2_begin 35 = .ok (.invokestatic 37, 3) := by decide +kernel
theorem dX2_begin_38 : decode cX2_begin 38 = .ok (.return_, 1) := by decide +kernel
set_option maxRecDepth 20000 in
theorem ggX2_hear_X2_letCount : GoodIn wsX2_hear wsX2_letCount := goodIn_r _ [8, 9, 10, 11, 12, 13, 14, 15, 16, 17, 18, 19, 20, 21, 22, 23] (by decide +kernel) (by decide +kernel)
set_option maxRecDepth 20000 in
theorem gX2_hear_X2_letCount : GoodIn wsX2_hear (wsV RX2 43 RX2 yX2_letCount wsX2_letCount) := goodIn_app (goodIn_of _ (by decide +kernel)) ggX2_hear_X2_letCount
theorem dX2_hear_0 : decode cX2_hear 0 = .ok (.aload_n 0, 1) := by decide +kernel
theorem dX2_hear_1 : decode cX2_hear 1 = .ok (.getfield 25, 3) := by decide +kernel
theorem dX2_hear_4 : decode cX2_hear 4 = .ok (.bipush 60, 2) := by decide +kernel
theorem dX2_hear_6 : decode cX2_hear 6 = .ok (.if_icmp .lt 4, 3) := by decide +kernel
theorem dX2_hear_9 : decode cX2_hear 9 = .ok (.return_, 1) := by decide +kernel
theorem dX2_hear_10 : decode cX2_hear 10 = .ok (.aload_n 0, 1) := by decide +kernel
theorem dX2_hear_11 : decode cX2_hear 11 = .ok (.getfield 25, 3) := by decide +kernel
theorem dX2_hear_14 : decode cX2_hear 14 = .ok (.iconst 5, 1) := by decide +kernel
theorem dX2_hear_15 : decode cX2_hear 15 = .ok (.imul, 1) := by decide +kernel
theorem dX2_hear_16 : decode cX2_hear 16 = .ok (.istore 5, 2) := by decide +kernel
theorem dX2_hear_18 : decode cX2_hear 18 = .ok (.aload_n 0, 1) := by decide +kernel
theorem dX2_hear_19 : decode cX2_hear 19 = .ok (.getfield 9, 3) := by decide +kernel
theorem dX2_hear_22 : decode cX2_hear 22 = .ok (.iload 5, 2) := by decide +kernel
theorem dX2_hear_24 : decode cX2_hear 24 = .ok (.iload_n 1, 1) := by decide +kernel
theorem dX2_hear_25 : decode cX2_hear 25 = .ok (.iastore, 1) := by decide +kernel
theorem dX2_hear_26 : decode cX2_hear 26 = .ok (.aload_n 0, 1) := by decide +kernel
theorem dX2_hear_27 : decode cX2_hear 27 = .ok (.getfield 9, 3) := by decide +kernel
theorem dX2_hear_30 : decode cX2_hear 30 = .ok (.iload 5, 2) := by decide +kernel
theorem dX2_hear_32 : decode cX2_hear 32 = .ok (.iconst 1, 1) := by decide +kernel
theorem dX2_hear_33 : decode cX2_hear 33 = .ok (.iadd, 1) := by decide +kernel
theorem dX2_hear_34 : decode cX2_hear 34 = .ok (.iload_n 2, 1) := by decide +kernel
theorem dX2_hear_35 : decode cX2_hear 35 = .ok (.iastore, 1) := by decide +kernel
theorem dX2_hear_36 : decode cX2_hear 36 = .ok (.aload_n 0, 1) := by decide +kernel
theorem dX2_hear_37 : decode cX2_hear 37 = .ok (.getfield 9, 3) := by decide +kernel
theorem dX2_hear_40 : decode cX2_hear 40 = .ok (.iload 5, 2) := by decide +kernel
theorem dX2_hear_42 : decode cX2_hear 42 = .ok (.iconst 2, 1) := by decide +kernel
theorem dX2_hear_43 : decode cX2_hear 43 = .ok (.iadd, 1) := by decide +kernel
theorem dX2_hear_44 : decode cX2_hear 44 = .ok (.iload_n 3, 1) := by decide +kernel
theorem dX2_hear_45 : decode cX2_hear 45 = .ok (.iastore, 1) := by decide +kernel
theorem dX2_hear_46 : decode cX2_hear 46 = .ok (.aload_n 0, 1) := by decide +kernel
theorem dX2_hear_47 : decode cX2_hear 47 = .ok (.getfield 9, 3) := by decide +kernel
theorem dX2_hear_50 : decode cX2_hear 50 = .ok (.iload 5, 2) := by decide +kernel
theorem dX2_hear_52 : decode cX2_hear 52 = .ok (.iconst 3, 1) := by decide +kernel
theorem dX2_hear_53 : decode cX2_hear 53 = .ok (.iadd, 1) := by decide +kernel
theorem dX2_hear_54 : decode cX2_hear 54 = .ok (.iload 4, 2) := by decide +kernel
theorem dX2_hear_56 : decode cX2_hear 56 = .ok (.iastore, 1) := by decide +kernel
theorem dX2_hear_57 : decode cX2_hear 57 = .ok (.aload_n 0, 1) := by decide +kernel
theorem dX2_hear_58 : decode cX2_hear 58 = .ok (.getfield 9, 3) := by decide +kernel
theorem dX2_hear_61 : decode cX2_hear 61 = .ok (.iload 5, 2) := by decide +kernel
theorem dX2_hear_63 : decode cX2_hear 63 = .ok (.iconst 4, 1) := by decide +kernel
theorem dX2_hear_64 : decode cX2_hear 64 = .ok (.iadd, 1) := by decide +kernel
theorem dX2_hear_65 : decode cX2_hear 65 = .ok (.iload 4, 2) := by decide +kernel
theorem dX2_hear_67 : decode cX2_hear 67 = .ok (.aload_n 0, 1) := by decide +kernel
theorem dX2_hear_68 : decode cX2_hear 68 = .ok (.getfield 22, 3) := by decide +kernel
theorem dX2_hear_71 : decode cX2_hear 71 = .ok (.if_icmp .lt 7, 3) := by decide +kernel
theorem dX2_hear_74 : decode cX2_hear 74 = .ok (.iconst 1, 1) := by decide +kernel
theorem dX2_hear_75 : decode cX2_hear 75 = .ok (.goto 4, 3) := by decide +kernel
theorem dX2_hear_78 : decode cX2_hear 78 = .ok (.iconst 0, 1) := by decide +kernel
theorem dX2_hear_79 : decode cX2_hear 79 = .ok (.iastore, 1) := by decide +kernel
theorem dX2_hear_80 : decode cX2_hear 80 = .ok (.aload_n 0, 1) := by decide +kernel
theorem dX2_hear_81 : decode cX2_hear 81 = .ok (.dup, 1) := by decide +kernel
theorem dX2_hear_82 : decode cX2_hear 82 = .ok (.getfield 25, 3) := by decide +kernel
theorem dX2_hear_85 : decode cX2_hear 85 = .ok (.iconst 1, 1) := by decide +kernel
theorem dX2_hear_86 : decode cX2_hear 86 = .ok (.iadd, 1) := by decide +kernel
theorem dX2_hear_87 : decode cX2_hear 87 = .ok (.putfield 25, 3) := by decide +kernel
theorem dX2_hear_90 : decode cX2_hear 90 = .ok (.iload 4, 2) := by decide +kernel
theorem dX2_hear_92 : decode cX2_hear 92 = .ok (.aload_n 0, 1) := by decide +kernel
theorem dX2_hear_93 : decode cX2_hear 93 = .ok (.getfield 22, 3) := by decide +kernel
theorem dX2_hear_96 : decode cX2_hear 96 = .ok (.if_icmp .lt 9, 3) := by decide +kernel
theorem dX2_hear_99 : decode cX2_hear 99 = .ok (.aload_n 0, 1) := by decide +kernel
theorem dX2_hear_100 : decode cX2_hear 100 = .ok (.iload_n 1, 1) := by decide +kernel
theorem dX2_hear_101 : decode cX2_hear 101 = .ok (.iload_n 2, 1) := by decide +kernel
theorem dX2_hear_102 : decode cX2_hear 102 = .ok (.invokevirtual 43, 3) := by decide +kernel
theorem dX2_hear_105 : decode cX2_hear 105 = .ok (.return_, 1) := by decide +kernel
set_option maxRecDepth 20000 in
theorem ggX2_letCount_X4_isWithin : GoodIn wsX2_letCount wsX4_isWithin := goodIn_r _ [7] (by decide +kernel) (by decide +kernel)
set_option maxRecDepth 20000 in
theorem gX2_letCount_X4_isWithin_n47 : GoodIn wsX2_letCount (wsX4_isWithin) := ggX2_letCount_X4_isWithin
theorem dX2_letCount_0 : decode cX2_letCount 0 = .ok (.aload_n 0, 1) := by decide +kernel
theorem dX2_letCount_1 : decode cX2_letCount 1 = .ok (.dup, 1) := by decide +kernel
theorem dX2_letCount_2 : decode cX2_letCount 2 = .ok (.getfield 28, 3) := by decide +kernel
theorem dX2_letCount_5 : decode cX2_letCount 5 = .ok (.iconst 1, 1) := by decide +kernel
theorem dX2_letCount_6 : decode cX2_letCount 6 = .ok (.iadd, 1) := by decide +kernel
theorem dX2_letCount_7 : decode cX2_letCount 7 = .ok (.putfield 28, 3) := by decide +kernel
theorem dX2_letCount_10 : decode cX2_letCount 10 = .ok (.aload_n 0, 1) := by decide +kernel
theorem dX2_letCount_11 : decode cX2_letCount 11 = .ok (.iload_n 1, 1) := by decide +kernel
theorem dX2_letCount_12 : decode cX2_letCount 12 = .ok (.putfield 34, 3) := by decide +kernel
theorem dX2_letCount_15 : decode cX2_letCount 15 = .ok (.iload_n 2, 1) := by decide +kernel
theorem dX2_letCount_16 : decode cX2_letCount 16 = .ok (.iconst 0, 1) := by decide +kernel
theorem dX2_letCount_17 : decode cX2_letCount 17 = .ok (.iconst 5, 1) := by decide +kernel
theorem dX2_letCount_18 : decode cX2_letCount 18 = .ok (.invokestatic 47, 3) := by decide +kernel
theorem dX2_letCount_21 : decode cX2_letCount 21 = .ok (.ifCond .eq 19, 3) := by decide +kernel
theorem dX2_letCount_24 : decode cX2_letCount 24 = .ok (.aload_n 0, 1) := by decide +kernel
theorem dX2_letCount_25 : decode cX2_letCount 25 = .ok (.getfield 15, 3) := by decide +kernel
theorem dX2_letCount_28 : decode cX2_letCount 28 = .ok (.iload_n 2, 1) := by decide +kernel
theorem dX2_letCount_29 : decode cX2_letCount 29 = .ok (.iaload, 1) := by decide +kernel
theorem dX2_letCount_30 : decode cX2_letCount 30 = .ok (.ifCond .ge 10, 3) := by decide +kernel
theorem dX2_letCount_33 : decode cX2_letCount 33 = .ok (.aload_n 0, 1) := by decide +kernel
theorem dX2_letCount_34 : decode cX2_letCount 34 = .ok (.getfield 15, 3) := by decide +kernel
theorem dX2_letCount_37 : decode cX2_letCount 37 = .ok (.iload_n 2, 1) := by decide +kernel
theorem dX2_letCount_38 : decode cX2_letCount 38 = .ok (.iload_n 1, 1) := by decide +kernel
theorem dX2_letCount_39 : decode cX2_letCount 39 = .ok (.iastore, 1) := by decide +kernel
theorem dX2_letCount_40 : decode cX2_letCount 40 = .ok (.iload_n 2, 1) := by decide +kernel
theorem dX2_letCount_41 : decode cX2_letCount 41 = .ok (.aload_n 0, 1) := by decide +kernel
theorem dX2_letCount_42 : decode cX2_letCount 42 = .ok (.getfield 31, 3) := by decide +kernel
theorem dX2_letCount_45 : decode cX2_letCount 45 = .ok (.if_icmp .ne 13, 3) := by decide +kernel
theorem dX2_letCount_48 : decode cX2_letCount 48 = .ok (.aload_n 0, 1) := by decide +kernel
theorem dX2_letCount_49 : decode cX2_letCount 49 = .ok (.dup, 1) := by decide +kernel
theorem dX2_letCount_50 : decode cX2_letCount 50 = .ok (.getfield 31, 3) := by decide +kernel
theorem dX2_letCount_53 : decode cX2_letCount 53 = .ok (.iconst 1, 1) := by decide +kernel
theorem dX2_letCount_54 : decode cX2_letCount 54 = .ok (.iadd, 1) := by decide +kernel
theorem dX2_letCount_55 : decode cX2_letCount 55 = .ok (.putfield 31, 3) := by decide +kernel
theorem dX2_letCount_58 : decode cX2_letCount 58 = .ok (.return_, 1) := by decide +kernel
theorem dX2_cameInOrder_0 : decode cX2_cameInOrder 0 = .ok (.aload_n 0, 1) := by decide +kernel
theorem dX2_cameInOrder_1 : decode cX2_cameInOrder 1 = .ok (.getfield 18, 3) := by decide +kernel
theorem dX2_cameInOrder_4 : decode cX2_cameInOrder 4 = .ok (.ifCond .le 18, 3) := by decide +kernel
theorem dX2_cameInOrder_7 : decode cX2_cameInOrder 7 = .ok (.aload_n 0, 1) := by decide +kernel
theorem dX2_cameInOrder_8 : decode cX2_cameInOrder 8 = .ok (.getfield 31, 3) := by decide +kernel
theorem dX2_cameInOrder_11 : decode cX2_cameInOrder 11 = .ok (.aload_n 0, 1) := by decide +kernel
theorem dX2_cameInOrder_12 : decode cX2_cameInOrder 12 = .ok (.getfield 18, 3) := by decide +kernel
theorem dX2_cameInOrder_15 : decode cX2_cameInOrder 15 = .ok (.if_icmp .ne 7, 3) := by decide +kernel
theorem dX2_cameInOrder_18 : decode cX2_cameInOrder 18 = .ok (.iconst 1, 1) := by decide +kernel
theorem dX2_cameInOrder_19 : decode cX2_cameInOrder 19 = .ok (.goto 4, 3) := by decide +kernel
theorem dX2_cameInOrder_22 : decode cX2_cameInOrder 22 = .ok (.iconst 0, 1) := by decide +kernel
theorem dX2_cameInOrder_23 : decode cX2_cameInOrder 23 = .ok (.ireturn, 1) := by decide +kernel
theorem dX2_heardFact_0 : decode cX2_heardFact 0 = .ok (.aload_n 0, 1) := by decide +kernel
theorem dX2_heardFact_1 : decode cX2_heardFact 1 = .ok (.getfield 9, 3) := by decide +kernel
theorem dX2_heardFact_4 : decode cX2_heardFact 4 = .ok (.iload_n 1, 1) := by decide +kernel
theorem dX2_heardFact_5 : decode cX2_heardFact 5 = .ok (.iconst 5, 1) := by decide +kernel
theorem dX2_heardFact_6 : decode cX2_heardFact 6 = .ok (.imul, 1) := by decide +kernel
theorem dX2_heardFact_7 : decode cX2_heardFact 7 = .ok (.iload_n 2, 1) := by decide +kernel
theorem dX2_heardFact_8 : decode cX2_heardFact 8 = .ok (.iadd, 1) := by decide +kernel
theorem dX2_heardFact_9 : decode cX2_heardFact 9 = .ok (.iaload, 1) := by decide +kernel
theorem dX2_heardFact_10 : decode cX2_heardFact 10 = .ok (.ireturn, 1) := by decide +kernel
set_option maxRecDepth 20000 in
theorem ggX2_meanStrength_X2_heardFact : GoodIn wsX2_meanStrength wsX2_heardFact := goodIn_r _ [6, 7, 8, 9, 10, 11, 12, 13, 14, 15] (by decide +kernel) (by decide +kernel)
set_option maxRecDepth 20000 in
theorem gX2_meanStrength_X2_heardFact : GoodIn wsX2_meanStrength (wsV RX2 51 RX2 yX2_heardFact wsX2_heardFact) := goodIn_app (goodIn_of _ (by decide +kernel)) ggX2_meanStrength_X2_heardFact
theorem dX2_meanStrength_0 : decode cX2_meanStrength 0 = .ok (.aload_n 0, 1) := by decide +kernel
theorem dX2_meanStrength_1 : decode cX2_meanStrength 1 = .ok (.getfield 25, 3) := by decide +kernel
theorem dX2_meanStrength_4 : decode cX2_meanStrength 4 = .ok (.ifCond .ne 5, 3) := by decide +kernel
theorem dX2_meanStrength_7 : decode cX2_meanStrength 7 = .ok (.dconst 0, 1) := by decide +kernel
theorem dX2_meanStrength_8 : decode cX2_meanStrength 8 = .ok (.dreturn, 1) := by decide +kernel
theorem dX2_meanStrength_9 : decode cX2_meanStrength 9 = .ok (.iconst 0, 1) := by decide +kernel
theorem dX2_meanStrength_10 : decode cX2_meanStrength 10 = .ok (.istore_n 1, 1) := by decide +kernel
theorem dX2_meanStrength_11 : decode cX2_meanStrength 11 = .ok (.iconst 0, 1) := by decide +kernel
theorem dX2_meanStrength_12 : decode cX2_meanStrength 12 = .ok (.istore_n 2, 1) := by decide +kernel
theorem dX2_meanStrength_13 : decode cX2_meanStrength 13 = .ok (.iload_n 2, 1) := by decide +kernel
theorem dX2_meanStrength_14 : decode cX2_meanStrength 14 = .ok (.aload_n 0, 1) := by decide +kernel
theorem dX2_meanStrength_15 : decode cX2_meanStrength 15 = .ok (.getfield 25, 3) := by decide +kernel
theorem dX2_meanStrength_18 : decode cX2_meanStrength 18 = .ok (.if_icmp .ge 18, 3) := by decide +kernel
theorem dX2_meanStrength_21 : decode cX2_meanStrength 21 = .ok (.iload_n 1, 1) := by decide +kernel
theorem dX2_meanStrength_22 : decode cX2_meanStrength 22 = .ok (.aload_n 0, 1) := by decide +kernel
theorem dX2_meanStrength_23 : decode cX2_meanStrength 23 = .ok (.iload_n 2, 1) := by decide +kernel
theorem dX2_meanStrength_24 : decode cX2_meanStrength 24 = .ok (.iconst 3, 1) := by decide +kernel
theorem dX2_meanStrength_25 : decode cX2_meanStrength 25 = .ok (.invokevirtual 51, 3) := by decide +kernel
theorem dX2_meanStrength_28 : decode cX2_meanStrength 28 = .ok (.iadd, 1) := by decide +kernel
theorem dX2_meanStrength_29 : decode cX2_meanStrength 29 = .ok (.istore_n 1, 1) := by decide +kernel
theorem dX2_meanStrength_30 : decode cX2_meanStrength 30 = .ok (.iinc 2 1, 3) := by decide +kernel
theorem dX2_meanStrength_33 : decode cX2_meanStrength 33 = .ok (.goto (-20), 3) := by decide +kernel
theorem dX2_meanStrength_36 : decode cX2_meanStrength 36 = .ok (.iload_n 1, 1) := by decide +kernel
theorem dX2_meanStrength_37 : decode cX2_meanStrength 37 = .ok (.i2d, 1) := by decide +kernel
theorem dX2_meanStrength_38 : decode cX2_meanStrength 38 = .ok (.aload_n 0, 1) := by decide +kernel
theorem dX2_meanStrength_39 : decode cX2_meanStrength 39 = .ok (.getfield 25, 3) := by decide +kernel
theorem dX2_meanStrength_42 : decode cX2_meanStrength 42 = .ok (.i2d, 1) := by decide +kernel
theorem dX2_meanStrength_43 : decode cX2_meanStrength 43 = .ok (.ddiv, 1) := by decide +kernel
theorem dX2_meanStrength_44 : decode cX2_meanStrength 44 = .ok (.dreturn, 1) := by decide +kernel
set_option maxRecDepth 20000 in
theorem ggX3_init_X1_init : GoodIn wsX3_init wsX1_init := goodIn_r _ [18, 19, 2, 3, 9, 20, 21, 29, 30] (by decide +kernel) (by decide +kernel)
set_option maxRecDepth 20000 in
theorem gX3_init_X1_init : GoodIn wsX3_init (wsX1_init) := ggX3_init_X1_init
theorem dX3_init_0 : decode cX3_init 0 = .ok (.aload_n 0, 1) := by decide +kernel
theorem dX3_init_1 : decode cX3_init 1 = .ok (.invokespecial 3, 3) := by decide +kernel
theorem dX3_init_4 : decode cX3_init 4 = .ok (.aload_n 0, 1) := by decide +kernel
theorem dX3_init_5 : decode cX3_init 5 = .ok (.aload_n 1, 1) := by decide +kernel
theorem dX3_init_6 : decode cX3_init 6 = .ok (.putfield 9, 3) := by decide +kernel
theorem dX3_init_9 : decode cX3_init 9 = .ok (.aload_n 0, 1) := by decide +kernel
theorem dX3_init_10 : decode cX3_init 10 = .ok (.new 15, 3) := by decide +kernel
theorem dX3_init_13 : decode cX3_init 13 = .ok (.dup, 1) := by decide +kernel
theorem dX3_init_14 : decode cX3_init 14 = .ok (.invokespecial 17, 3) := by decide +kernel
theorem dX3_init_17 : decode cX3_init 17 = .ok (.putfield 18, 3) := by decide +kernel
theorem dX3_init_20 : decode cX3_init 20 = .ok (.aload_n 0, 1) := by decide +kernel
theorem dX3_init_21 : decode cX3_init 21 = .ok (.bipush 17, 2) := by decide +kernel
theorem dX3_init_23 : decode cX3_init 23 = .ok (.newarray .int, 2) := by decide +kernel
theorem dX3_init_25 : decode cX3_init 25 = .ok (.putfield 22, 3) := by decide +kernel
theorem dX3_init_28 : decode cX3_init 28 = .ok (.aload_n 0, 1) := by decide +kernel
theorem dX3_init_29 : decode cX3_init 29 = .ok (.bipush 17, 2) := by decide +kernel
theorem dX3_init_31 : decode cX3_init 31 = .ok (.newarray .int, 2) := by decide +kernel
theorem dX3_init_33 : decode cX3_init 33 = .ok (.putfield 26, 3) := by decide +kernel
theorem dX3_init_36 : decode cX3_init 36 = .ok (.aload_n 0, 1) := by decide +kernel
theorem dX3_init_37 : decode cX3_init 37 = .ok (.bipush 17, 2) := by decide +kernel
