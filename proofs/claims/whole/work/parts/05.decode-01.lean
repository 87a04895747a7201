theorem dX0_init_0 : decode cX0_init 0 = .ok (.aload_n 0, 1) := by decide +kernel
theorem dX0_init_1 : decode cX0_init 1 = .ok (.invokespecial 3, 3) := by decide +kernel
theorem dX0_init_4 : decode cX0_init 4 = .ok (.aload_n 0, 1) := by decide +kernel
theorem dX0_init_5 : decode cX0_init 5 = .ok (.iconst 5, 1) := by decide +kernel
theorem dX0_init_6 : decode cX0_init 6 = .ok (.putfield 9, 3) := by decide +kernel
theorem dX0_init_9 : decode cX0_init 9 = .ok (.aload_n 0, 1) := by decide +kernel
theorem dX0_init_10 : decode cX0_init 10 = .ok (.bipush 9, 2) := by decide +kernel
theorem dX0_init_12 : decode cX0_init 12 = .ok (.newarray .int, 2) := by decide +kernel
theorem dX0_init_14 : decode cX0_init 14 = .ok (.putfield 15, 3) := by decide +kernel
theorem dX0_init_17 : decode cX0_init 17 = .ok (.aload_n 0, 1) := by decide +kernel
theorem dX0_init_18 : decode cX0_init 18 = .ok (.bipush 9, 2) := by decide +kernel
theorem dX0_init_20 : decode cX0_init 20 = .ok (.newarray .int, 2) := by decide +kernel
theorem dX0_init_22 : decode cX0_init 22 = .ok (.putfield 19, 3) := by decide +kernel
theorem dX0_init_25 : decode cX0_init 25 = .ok (.aload_n 0, 1) := by decide +kernel
theorem dX0_init_26 : decode cX0_init 26 = .ok (.bipush 9, 2) := by decide +kernel
theorem dX0_init_28 : decode cX0_init 28 = .ok (.newarray .int, 2) := by decide +kernel
theorem dX0_init_30 : decode cX0_init 30 = .ok (.putfield 22, 3) := by decide +kernel
theorem dX0_init_33 : decode cX0_init 33 = .ok (.aload_n 0, 1) := by decide +kernel
theorem dX0_init_34 : decode cX0_init 34 = .ok (.bipush 9, 2) := by decide +kernel
theorem dX0_init_36 : decode cX0_init 36 = .ok (.newarray .int, 2) := by decide +kernel
theorem dX0_init_38 : decode cX0_init 38 = .ok (.putfield 25, 3) := by decide +kernel
theorem dX0_init_41 : decode cX0_init 41 = .ok (.aload_n 0, 1) := by decide +kernel
theorem dX0_init_42 : decode cX0_init 42 = .ok (.bipush 9, 2) := by decide +kernel
theorem dX0_init_44 : decode cX0_init 44 = .ok (.newarray .int, 2) := by decide +kernel
theorem dX0_init_46 : decode cX0_init 46 = .ok (.putfield 28, 3) := by decide +kernel
theorem dX0_init_49 : decode cX0_init 49 = .ok (.aload_n 0, 1) := by decide +kernel
theorem dX0_init_50 : decode cX0_init 50 = .ok (.bipush 9, 2) := by decide +kernel
theorem dX0_init_52 : decode cX0_init 52 = .ok (.newarray .long, 2) := by decide +kernel
theorem dX0_init_54 : decode cX0_init 54 = .ok (.putfield 31, 3) := by decide +kernel
theorem dX0_init_57 : decode cX0_init 57 = .ok (.return_, 1) := by decide +kernel
theorem dX0_empty_0 : decode cX0_empty 0 = .ok (.aload_n 0, 1) := by decide +kernel
theorem dX0_empty_1 : decode cX0_empty 1 = .ok (.iconst 0, 1) := by decide +kernel
theorem dX0_empty_2 : decode cX0_empty 2 = .ok (.putfield 35, 3) := by decide +kernel
theorem dX0_empty_5 : decode cX0_empty 5 = .ok (.aload_n 0, 1) := by decide +kernel
theorem dX0_empty_6 : decode cX0_empty 6 = .ok (.iconst 0, 1) := by decide +kernel
theorem dX0_empty_7 : decode cX0_empty 7 = .ok (.putfield 38, 3) := by decide +kernel
theorem dX0_empty_10 : decode cX0_empty 10 = .ok (.aload_n 0, 1) := by decide +kernel
theorem dX0_empty_11 : decode cX0_empty 11 = .ok (.iconst 0, 1) := by decide +kernel
theorem dX0_empty_12 : decode cX0_empty 12 = .ok (.putfield 41, 3) := by decide +kernel
theorem dX0_empty_15 : decode cX0_empty 15 = .ok (.aload_n 0, 1) := by decide +kernel
theorem dX0_empty_16 : decode cX0_empty 16 = .ok (.iconst 0, 1) := by decide +kernel
theorem dX0_empty_17 : decode cX0_empty 17 = .ok (.putfield 44, 3) := by decide +kernel
theorem dX0_empty_20 : decode cX0_empty 20 = .ok (.aload_n 0, 1) := by decide +kernel
theorem dX0_empty_21 : decode cX0_empty 21 = .ok (.iconst 5, 1) := by decide +kernel
theorem dX0_empty_22 : decode cX0_empty 22 = .ok (.putfield 9, 3) := by decide +kernel
theorem dX0_empty_25 : decode cX0_empty 25 = .ok (.return_, 1) := by decide +kernel
theorem dX0_copy_0 : decode cX0_copy 0 = .ok (.aload_n 0, 1) := by decide +kernel
theorem dX0_copy_1 : decode cX0_copy 1 = .ok (.aload_n 1, 1) := by decide +kernel
theorem dX0_copy_2 : decode cX0_copy 2 = .ok (.getfield 35, 3) := by decide +kernel
theorem dX0_copy_5 : decode cX0_copy 5 = .ok (.putfield 35, 3) := by decide +kernel
theorem dX0_copy_8 : decode cX0_copy 8 = .ok (.aload_n 0, 1) := by decide +kernel
theorem dX0_copy_9 : decode cX0_copy 9 = .ok (.aload_n 1, 1) := by decide +kernel
theorem dX0_copy_10 : decode cX0_copy 10 = .ok (.getfield 38, 3) := by decide +kernel
theorem dX0_copy_13 : decode cX0_copy 13 = .ok (.putfield 38, 3) := by decide +kernel
theorem dX0_copy_16 : decode cX0_copy 16 = .ok (.aload_n 0, 1) := by decide +kernel
theorem dX0_copy_17 : decode cX0_copy 17 = .ok (.aload_n 1, 1) := by decide +kernel
theorem dX0_copy_18 : decode cX0_copy 18 = .ok (.getfield 41, 3) := by decide +kernel
theorem dX0_copy_21 : decode cX0_copy 21 = .ok (.putfield 41, 3) := by decide +kernel
theorem dX0_copy_24 : decode cX0_copy 24 = .ok (.aload_n 0, 1) := by decide +kernel
theorem dX0_copy_25 : decode cX0_copy 25 = .ok (.aload_n 1, 1) := by decide +kernel
theorem dX0_copy_26 : decode cX0_copy 26 = .ok (.getfield 44, 3) := by decide +kernel
theorem dX0_copy_29 : decode cX0_copy 29 = .ok (.putfield 44, 3) := by decide +kernel
theorem dX0_copy_32 : decode cX0_copy 32 = .ok (.aload_n 0, 1) := by decide +kernel
theorem dX0_copy_33 : decode cX0_copy 33 = .ok (.aload_n 1, 1) := by decide +kernel
theorem dX0_copy_34 : decode cX0_copy 34 = .ok (.getfield 9, 3) := by decide +kernel
theorem dX0_copy_37 : decode cX0_copy 37 = .ok (.putfield 9, 3) := by decide +kernel
theorem dX0_copy_40 : decode cX0_copy 40 = .ok (.iconst 0, 1) := by decide +kernel
theorem dX0_copy_41 : decode cX0_copy 41 = .ok (.istore_n 2, 1) := by decide +kernel
theorem dX0_copy_42 : decode cX0_copy 42 = .ok (.iload_n 2, 1) := by decide +kernel
theorem dX0_copy_43 : decode cX0_copy 43 = .ok (.bipush 9, 2) := by decide +kernel
theorem dX0_copy_45 : decode cX0_copy 45 = .ok (.if_icmp .ge 81, 3) := by decide +kernel
theorem dX0_copy_48 : decode cX0_copy 48 = .ok (.aload_n 0, 1) := by decide +kernel
theorem dX0_copy_49 : decode cX0_copy 49 = .ok (.getfield 15, 3) := by decide +kernel
theorem dX0_copy_52 : decode cX0_copy 52 = .ok (.iload_n 2, 1) := by decide +kernel
theorem dX0_copy_53 : decode cX0_copy 53 = .ok (.aload_n 1, 1) := by decide +kernel
theorem dX0_copy_54 : decode cX0_copy 54 = .ok (.getfield 15, 3) := by decide +kernel
theorem dX0_copy_57 : decode cX0_copy 57 = .ok (.iload_n 2, 1) := by decide +kernel
theorem dX0_copy_58 : decode cX0_copy 58 = .ok (.iaload, 1) := by decide +kernel
theorem dX0_copy_59 : decode cX0_copy 59 = .ok (.iastore, 1) := by decide +kernel
theorem dX0_copy_60 : decode cX0_copy 60 = .ok (.aload_n 0, 1) := by decide +kernel
theorem dX0_copy_61 : decode cX0_copy 61 = .ok (.getfield 19, 3) := by decide +kernel
theorem dX0_copy_64 : decode cX0_copy 64 = .ok (.iload_n 2, 1) := by decide +kernel
theorem dX0_copy_65 : decode cX0_copy 65 = .ok (.aload_n 1, 1) := by decide +kernel
theorem dX0_copy_66 : decode cX0_copy 66 = .ok (.getfield 19, 3) := by decide +kernel
theorem dX0_copy_69 : decode cX0_copy 69 = .ok (.iload_n 2, 1) := by decide +kernel
theorem dX0_copy_70 : decode cX0_copy 70 = .ok (.iaload, 1) := by decide +kernel
theorem dX0_copy_71 : decode cX0_copy 71 = .ok (.iastore, 1) := by decide +kernel
theorem dX0_copy_72 : decode cX0_copy 72 = .ok (.aload_n 0, 1) := by decide +kernel
theorem dX0_copy_73 : decode cX0_copy 73 = .ok (.getfield 22, 3) := by decide +kernel
theorem dX0_copy_76 : decode cX0_copy 76 = .ok (.iload_n 2, 1) := by decide +kernel
theorem dX0_copy_77 : decode cX0_copy 77 = .ok (.aload_n 1, 1) := by decide +kernel
theorem dX0_copy_78 : decode cX0_copy 78 = .ok (.getfield 22, 3) := by decide +kernel
theorem dX0_copy_81 : decode cX0_copy 81 = .ok (.iload_n 2, 1) := by decide +kernel
theorem dX0_copy_82 : decode cX0_copy 82 = .ok (.iaload, 1) := by decide +kernel
theorem dX0_copy_83 : decode cX0_copy 83 = .ok (.iastore, 1) := by decide +kernel
theorem dX0_copy_84 : decode cX0_copy 84 = .ok (.aload_n 0, 1) := by decide +kernel
theorem dX0_copy_85 : decode cX0_copy 85 = .ok (.getfield 25, 3) := by decide +kernel
theorem dX0_copy_88 : decode cX0_copy 88 = .ok (.iload_n 2, 1) := by decide +kernel
theorem dX0_copy_89 : decode cX0_copy 89 = .ok (.aload_n 1, 1) := by decide +kernel
theorem dX0_copy_90 : decode cX0_copy 90 = .ok (.getfield 25, 3) := by decide +kernel
theorem dX0_copy_93 : decode cX0_copy 93 = .ok (.iload_n 2, 1) := by decide +kernel
theorem dX0_copy_94 : decode cX0_copy 94 = .ok (.iaload, 1) := by decide +kernel
theorem dX0_copy_95 : decode cX0_copy 95 = .ok (.iastore, 1) := by decide +kernel
theorem dX0_copy_96 : decode cX0_copy 96 = .ok (.aload_n 0, 1) := by decide +kernel
theorem dX0_copy_97 : decode cX0_copy 97 = .ok (.getfield 28, 3) := by decide +kernel
theorem dX0_copy_100 : decode cX0_copy 100 = .ok (.iload_n 2, 1) := by decide +kernel
theorem dX0_copy_101 : decode cX0_copy 101 = .ok (.aload_n 1, 1) := by decide +kernel
theorem dX0_copy_102 : decode cX0_copy 102 = .ok (.getfield 28, 3) := by decide +kernel
theorem dX0_copy_105 : decode cX0_copy 105 = .ok (.iload_n 2, 1) := by decide +kernel
theorem dX0_copy_106 : decode cX0_copy 106 = .ok (.iaload, 1) := by decide +kernel
theorem dX0_copy_107 : decode cX0_copy 107 = .ok (.iastore, 1) := by decide +kernel
theorem dX0_copy_108 : decode cX0_copy 108 = .ok (.aload_n 0, 1) := by decide +kernel
theorem dX0_copy_109 : decode cX0_copy 109 = .ok (.getfield 31, 3) := by decide +kernel
theorem dX0_copy_112 : decode cX0_copy 112 = .ok (.iload_n 2, 1) := by decide +kernel
theorem dX0_copy_113 : decode cX0_copy 113 = .ok (.aload_n 1, 1) := by decide +kernel
theorem dX0_copy_114 : decode cX0_copy 114 = .ok (.getfield 31, 3) := by decide +kernel
theorem dX0_copy_117 : decode cX0_copy 117 = .ok (.iload_n 2, 1) := by decide +kernel
theorem dX0_copy_118 : decode cX0_copy 118 = .ok (.laload, 1) := by decide +kernel
theorem dX0_copy_119 : decode cX0_copy 119 = .ok (.lastore, 1) := by decide +kernel
theorem dX0_copy_120 : decode cX0_copy 120 = .ok (.iinc 2 1, 3) := by decide +kernel
theorem dX0_copy_123 : decode cX0_copy 123 = .ok (.goto (-81), 3) := by decide +kernel
theorem dX0_copy_126 : decode cX0_copy 126 = .ok (.return_, 1) := by decide +kernel
set_option maxRecDepth 20000 in
theorem ggX0_addSaying_X5_worldsOfSaying : GoodIn wsX0_addSaying wsX5_worldsOfSaying := goodIn_r _ [10, 11, 12, 13, 9, 14, 15] (by decide +kernel) (by decide +kernel)
set_option maxRecDepth 20000 in
theorem gX0_addSaying_X5_worldsOfSaying_n47 : GoodIn wsX0_addSaying (wsX5_worldsOfSaying) := ggX0_addSaying_X5_worldsOfSaying
theorem dX0_addSaying_0 : decode cX0_addSaying 0 = .ok (.aload_n 0, 1) := by decide +kernel
theorem dX0_addSaying_1 : decode cX0_addSaying 1 = .ok (.getfield 38, 3) := by decide +kernel
theorem dX0_addSaying_4 : decode cX0_addSaying 4 = .ok (.bipush 9, 2) := by decide +kernel
theorem dX0_addSaying_6 : decode cX0_addSaying 6 = .ok (.if_icmp .lt 6, 3) := by decide +kernel
theorem dX0_addSaying_9 : decode cX0_addSaying 9 = .ok (.bipush (-3), 2) := by decide +kernel
theorem dX0_addSaying_11 : decode cX0_addSaying 11 = .ok (.ireturn, 1) := by decide +kernel
theorem dX0_addSaying_12 : decode cX0_addSaying 12 = .ok (.aload_n 0, 1) := by decide +kernel
theorem dX0_addSaying_13 : decode cX0_addSaying 13 = .ok (.getfield 38, 3) := by decide +kernel
theorem dX0_addSaying_16 : decode cX0_addSaying 16 = .ok (.istore 5, 2) := by decide +kernel
theorem dX0_addSaying_18 : decode cX0_addSaying 18 = .ok (.aload_n 0, 1) := by decide +kernel
theorem dX0_addSaying_19 : decode cX0_addSaying 19 = .ok (.getfield 15, 3) := by decide +kernel
theorem dX0_addSaying_22 : decode cX0_addSaying 22 = .ok (.iload 5, 2) := by decide +kernel
theorem dX0_addSaying_24 : decode cX0_addSaying 24 = .ok (.iload_n 1, 1) := by decide +kernel
theorem dX0_addSaying_25 : decode cX0_addSaying 25 = .ok (.iastore, 1) := by decide +kernel
theorem dX0_addSaying_26 : decode cX0_addSaying 26 = .ok (.aload_n 0, 1) := by decide +kernel
theorem dX0_addSaying_27 : decode cX0_addSaying 27 = .ok (.getfield 19, 3) := by decide +kernel
theorem dX0_addSaying_30 : decode cX0_addSaying 30 = .ok (.iload 5, 2) := by decide +kernel
theorem dX0_addSaying_32 : decode cX0_addSaying 32 = .ok (.iload_n 2, 1) := by decide +kernel
theorem dX0_addSaying_33 : decode cX0_addSaying 33 = .ok (.iastore, 1) := by decide +kernel
theorem dX0_addSaying_34 : decode cX0_addSaying 34 = .ok (.aload_n 0, 1) := by decide +kernel
theorem dX0_addSaying_35 : decode cX0_addSaying 35 = .ok (.getfield 22, 3) := by decide +kernel
theorem dX0_addSaying_38 : decode cX0_addSaying 38 = .ok (.iload 5, 2) := by decide +kernel
theorem dX0_addSaying_40 : decode cX0_addSaying 40 = .ok (.iload_n 3, 1) := by decide +kernel
theorem dX0_addSaying_41 : decode cX0_addSaying 41 = .ok (.iastore, 1) := by decide +kernel
theorem dX0_addSaying_42 : decode cX0_addSaying 42 = .ok (.aload_n 0, 1) := by decide +kernel
theorem dX0_addSaying_43 : decode cX0_addSaying 43 = .ok (.getfield 25, 3) := by decide +kernel
theorem dX0_addSaying_46 : decode cX0_addSaying 46 = .ok (.iload 5, 2) := by decide +kernel
theorem dX0_addSaying_48 : decode cX0_addSaying 48 = .ok (.iload 4, 2) := by decide +kernel
theorem dX0_addSaying_50 : decode cX0_addSaying 50 = .ok (.iastore, 1) := by decide +kernel
theorem dX0_addSaying_51 : decode cX0_addSaying 51 = .ok (.aload_n 0, 1) := by decide +kernel
theorem dX0_addSaying_52 : decode cX0_addSaying 52 = .ok (.getfield 28, 3) := by decide +kernel
theorem dX0_addSaying_55 : decode cX0_addSaying 55 = .ok (.iload 5, 2) := by decide +kernel
theorem dX0_addSaying_57 : decode cX0_addSaying 57 = .ok (.iconst 0, 1) := by decide +kernel
theorem dX0_addSaying_58 : decode cX0_addSaying 58 = .ok (.iastore, 1) := by decide +kernel
theorem dX0_addSaying_59 : decode cX0_addSaying 59 = .ok (.aload_n 0, 1) := by decide +kernel
theorem dX0_addSaying_60 : decode cX0_addSaying 60 = .ok (.getfield 31, 3) := by decide +kernel
theorem dX0_addSaying_63 : decode cX0_addSaying 63 = .ok (.iload 5, 2) := by decide +kernel
theorem dX0_addSaying_65 : decode cX0_addSaying 65 = .ok (.iload_n 1, 1) := by decide +kernel
theorem dX0_addSaying_66 : decode cX0_addSaying 66 = .ok (.iload_n 2, 1) := by decide +kernel
theorem dX0_addSaying_67 : decode cX0_addSaying 67 = .ok (.iload_n 3, 1) := by decide +kernel
theorem dX0_addSaying_68 : decode cX0_addSaying 68 = .ok (.invokestatic 47, 3) := by decide +kernel
theorem dX0_addSaying_71 : decode cX0_addSaying 71 = .ok (.lastore, 1) := by decide +kernel
theorem dX0_addSaying_72 : decode cX0_addSaying 72 = .ok (.aload_n 0, 1) := by decide +kernel
theorem dX0_addSaying_73 : decode cX0_addSaying 73 = .ok (.dup, 1) := by decide +kernel
theorem dX0_addSaying_74 : decode cX0_addSaying 74 = .ok (.getfield 38, 3) := by decide +kernel
theorem dX0_addSaying_77 : decode cX0_addSaying 77 = .ok (.iconst 1, 1) := by decide +kernel
theorem dX0_addSaying_78 : decode cX0_addSaying 78 = .ok (.iadd, 1) := by decide +kernel
theorem dX0_addSaying_79 : decode cX0_addSaying 79 = .ok (.putfield 38, 3) := by decide +kernel
theorem dX0_addSaying_82 : decode cX0_addSaying 82 = .ok (.iload 5, 2) := by decide +kernel
theorem dX0_addSaying_84 : decode cX0_addSaying 84 = .ok (.ireturn, 1) := by decide +kernel
theorem dX0_isThere_0 : decode cX0_isThere 0 = .ok (.iload_n 1, 1) := by decide +kernel
theorem dX0_isThere_1 : decode cX0_isThere 1 = .ok (.ifCond .lt 21, 3) := by decide +kernel
theorem dX0_isThere_4 : decode cX0_isThere 4 = .ok (.iload_n 1, 1) := by decide +kernel
theorem dX0_isThere_5 : decode cX0_isThere 5 = .ok (.aload_n 0, 1) := by decide +kernel
theorem dX0_isThere_6 : decode cX0_isThere 6 = .ok (.getfield 38, 3) := by decide +kernel
theorem dX0_isThere_9 : decode cX0_isThere 9 = .ok (.if_icmp .ge 13, 3) := by decide +kernel
theorem dX0_isThere_12 : decode cX0_isThere 12 = .ok (.iload_n 1, 1) := by decide +kernel
theorem dX0_isThere_13 : decode cX0_isThere 13 = .ok (.bipush 9, 2) := by decide +kernel
theorem dX0_isThere_15 : decode cX0_isThere 15 = .ok (.if_icmp .ge 7, 3) := by decide +kernel
theorem dX0_isThere_18 : decode cX0_isThere 18 = .ok (.iconst 1, 1) := by decide +kernel
theorem dX0_isThere_19 : decode cX0_isThere 19 = .ok (.goto 4, 3) := by decide +kernel
theorem dX0_isThere_22 : decode cX0_isThere 22 = .ok (.iconst 0, 1) := by decide +kernel
theorem dX0_isThere_23 : decode cX0_isThere 23 = .ok (.ireturn, 1) := by decide +kernel
theorem dX0_isWithdrawn_0 : decode cX0_isWithdrawn 0 = .ok (.aload_n 0, 1) := by decide +kernel
theorem dX0_isWithdrawn_1 : decode cX0_isWithdrawn 1 = .ok (.getfield 41, 3) := by decide +kernel
theorem dX0_isWithdrawn_4 : decode cX0_isWithdrawn 4 = .ok (.iload_n 1, 1) := by decide +kernel
theorem dX0_isWithdrawn_5 : decode cX0_isWithdrawn 5 = .ok (.ishr, 1) := by decide +kernel
theorem dX0_isWithdrawn_6 : decode cX0_isWithdrawn 6 = .ok (.iconst 1, 1) := by decide +kernel
theorem dX0_isWithdrawn_7 : decode cX0_isWithdrawn 7 = .ok (.iand, 1) := by decide +kernel
theorem dX0_isWithdrawn_8 : decode cX0_isWithdrawn 8 = .ok (.iconst 1, 1) := by decide +kernel
theorem dX0_isWithdrawn_9 : decode cX0_isWithdrawn 9 = .ok (.if_icmp .ne 7, 3) := by decide +kernel
theorem dX0_isWithdrawn_12 : decode cX0_isWithdrawn 12 = .ok (.iconst 1, 1) := by decide +kernel
theorem dX0_isWithdrawn_13 : decode cX0_isWithdrawn 13 = .ok (.goto 4, 3) := by decide +kernel
theorem dX0_isWithdrawn_16 : decode cX0_isWithdrawn 16 = .ok (.iconst 0, 1) := by decide +kernel
theorem dX0_isWithdrawn_17 : decode cX0_isWithdrawn 17 = .ok (.ireturn, 1) := by decide +kernel
set_option maxRecDepth 20000 in
theorem ggX0_isSoIn_X0_isThere : GoodIn wsX0_isSoIn wsX0_isThere := goodIn_r _ [6, 7, 11, 12, 13, 14, 15, 16, 17, 18, 19, 20, 21] (by decide +kernel) (by decide +kernel)
set_option maxRecDepth 20000 in
theorem gX0_isSoIn_X0_isThere : GoodIn wsX0_isSoIn (wsV RX0 51 RX0 yX0_isThere wsX0_isThere) := goodIn_app (goodIn_of _ (by decide +kernel)) ggX0_isSoIn_X0_isThere
set_option maxRecDepth 20000 in
theorem ggX0_isSoIn_X5_isAmong : GoodIn wsX0_isSoIn wsX5_isAmong := goodIn_r _ [10] (by decide +kernel) (by decide +kernel)
set_option maxRecDepth 20000 in
theorem gX0_isSoIn_X5_isAmong_n55 : GoodIn wsX0_isSoIn (wsX5_isAmong) := ggX0_isSoIn_X5_isAmong
theorem dX0_isSoIn_0 : decode cX0_isSoIn 0 = .ok (.aload_n 0, 1) := by decide +kernel
theorem dX0_isSoIn_1 : decode cX0_isSoIn 1 = .ok (.iload_n 1, 1) := by decide +kernel
theorem dX0_isSoIn_2 : decode cX0_isSoIn 2 = .ok (.invokevirtual 51, 3) := by decide +kernel
theorem dX0_isSoIn_5 : decode cX0_isSoIn 5 = .ok (.ifCond .eq 20, 3) := by decide +kernel
theorem dX0_isSoIn_8 : decode cX0_isSoIn 8 = .ok (.aload_n 0, 1) := by decide +kernel
theorem dX0_isSoIn_9 : decode cX0_isSoIn 9 = .ok (.getfield 31, 3) := by decide +kernel
theorem dX0_isSoIn_12 : decode cX0_isSoIn 12 = .ok (.iload_n 1, 1) := by decide +kernel
theorem dX0_isSoIn_13 : decode cX0_isSoIn 13 = .ok (.laload, 1) := by decide +kernel
theorem dX0_isSoIn_14 : decode cX0_isSoIn 14 = .ok (.iload_n 2, 1) := by decide +kernel
theorem dX0_isSoIn_15 : decode cX0_isSoIn 15 = .ok (.invokestatic 55, 3) := by decide +kernel
theorem dX0_isSoIn_18 : decode cX0_isSoIn 18 = .ok (.ifCond .eq 7, 3) := by decide +kernel
theorem dX0_isSoIn_21 : decode cX0_isSoIn 21 = .ok (.iconst 1, 1) := by decide +kernel
theorem dX0_isSoIn_22 : decode cX0_isSoIn 22 = .ok (.goto 4, 3) := by decide +kernel
theorem dX0_isSoIn_25 : decode cX0_isSoIn 25 = .ok (.iconst 0, 1) := by decide +kernel
theorem dX0_isSoIn_26 : decode cX0_isSoIn 26 = .ok (.ireturn, 1) := by decide +kernel
set_option maxRecDepth 20000 in
theorem ggX0_hasPoliceman_X0_isThere : GoodIn wsX0_hasPoliceman wsX0_isThere := goodIn_r _ [7, 8, 17, 18, 19, 20, 21, 22, 23, 24, 25, 26, 27] (by decide +kernel) (by decide +kernel)
set_option maxRecDepth 20000 in
theorem gX0_hasPoliceman_X0_isThere : GoodIn wsX0_hasPoliceman (wsV RX0 51 RX0 yX0_isThere wsX0_isThere) := goodIn_app (goodIn_of _ (by decide +kernel)) ggX0_hasPoliceman_X0_isThere
set_option maxRecDepth 20000 in
theorem ggX0_hasPoliceman_X0_isWithdrawn : GoodIn wsX0_hasPoliceman wsX0_isWithdrawn := goodIn_r _ [12, 13, 17, 18, 19, 20, 21, 22, 23, 24, 25, 26, 27] (by decide +kernel) (by decide +kernel)
set_option maxRecDepth 20000 in
theorem gX0_hasPoliceman_X0_isWithdrawn : GoodIn wsX0_hasPoliceman (wsV RX0 59 RX0 yX0_isWithdrawn wsX0_isWithdrawn) := goodIn_app (goodIn_of _ (by decide +kernel)) ggX0_hasPoliceman_X0_isWithdrawn
set_option maxRecDepth 20000 in
theorem ggX0_hasPoliceman_X5_isAmong : GoodIn wsX0_hasPoliceman wsX5_isAmong := goodIn_r _ [16] (by decide +kernel) (by decide +kernel)
set_option maxRecDepth 20000 in
theorem gX0_hasPoliceman_X5_isAmong_n55 : GoodIn wsX0_hasPoliceman (wsX5_isAmong) := ggX0_hasPoliceman_X5_isAmong
theorem dX0_hasPoliceman_0 : decode cX0_hasPoliceman 0 = .ok (.aload_n 0, 1) := by decide +kernel
theorem dX0_hasPoliceman_1 : decode cX0_hasPoliceman 1 = .ok (.iload_n 1, 1) := by decide +kernel
theorem dX0_hasPoliceman_2 : decode cX0_hasPoliceman 2 = .ok (.invokevirtual 51, 3) := by decide +kernel
theorem dX0_hasPoliceman_5 : decode cX0_hasPoliceman 5 = .ok (.ifCond .eq 31, 3) := by decide +kernel
theorem dX0_hasPoliceman_8 : decode cX0_hasPoliceman 8 = .ok (.aload_n 0, 1) := by decide +kernel
theorem dX0_hasPoliceman_9 : decode cX0_hasPoliceman 9 = .ok (.iload_n 1, 1) := by decide +kernel
theorem dX0_hasPoliceman_10 : decode cX0_hasPoliceman 10 = .ok (.invokevirtual 59, 3) := by decide +kernel
theorem dX0_hasPoliceman_13 : decode cX0_hasPoliceman 13 = .ok (.ifCond .ne 23, 3) := by decide +kernel
theorem dX0_hasPoliceman_16 : decode cX0_hasPoliceman 16 = .ok (.aload_n 0, 1) := by decide +kernel
theorem dX0_hasPoliceman_17 : decode cX0_hasPoliceman 17 = .ok (.getfield 31, 3) := by decide +kernel
theorem dX0_hasPoliceman_20 : decode cX0_hasPoliceman 20 = .ok (.iload_n 1, 1) := by decide +kernel
theorem dX0_hasPoliceman_21 : decode cX0_hasPoliceman 21 = .ok (.laload, 1) := by decide +kernel
theorem dX0_hasPoliceman_22 : decode cX0_hasPoliceman 22 = .ok (.aload_n 0, 1) := by decide +kernel
theorem dX0_hasPoliceman_23 : decode cX0_hasPoliceman 23 = .ok (.getfield 35, 3) := by decide +kernel
theorem dX0_hasPoliceman_26 : decode cX0_hasPoliceman 26 = .ok (.invokestatic 55, 3) := by decide +kernel
theorem dX0_hasPoliceman_29 : decode cX0_hasPoliceman 29 = .ok (.ifCond .ne 7, 3) := by decide +kernel
theorem dX0_hasPoliceman_32 : decode cX0_hasPoliceman 32 = .ok (.iconst 1, 1) := by decide +kernel
theorem dX0_hasPoliceman_33 : decode cX0_hasPoliceman 33 = .ok (.goto 4, 3) := by decide +kernel
theorem dX0_hasPoliceman_36 : decode cX0_hasPoliceman 36 = .ok (.iconst 0, 1) := by decide +kernel
theorem dX0_hasPoliceman_37 : decode cX0_hasPoliceman 37 = .ok (.ireturn, 1) := by decide +kernel
set_option maxRecDepth 20000 in
theorem ggX0_hasServed_X0_isThere : GoodIn wsX0_hasServed wsX0_isThere := goodIn_r _ [7, 8, 23, 24, 25, 26, 27, 28, 29, 30, 31, 32, 33] (by decide +kernel) (by decide +kernel)
set_option maxRecDepth 20000 in
theorem gX0_hasServed_X0_isThere : GoodIn wsX0_hasServed (wsV RX0 51 RX0 yX0_isThere wsX0_isThere) := goodIn_app (goodIn_of _ (by decide +kernel)) ggX0_hasServed_X0_isThere
set_option maxRecDepth 20000 in
theorem ggX0_hasServed_X0_hasPoliceman : GoodIn wsX0_hasServed wsX0_hasPoliceman := goodIn_r _ [12, 13, 14, 3, 4, 5, 6, 7, 8, 15, 16, 17, 18, 19, 20, 21, 22, 23, 24, 25, 26, 27, 28, 29, 30, 31, 32, 33] (by decide +kernel) (by decide +kernel)
set_option maxRecDepth 20000 in
theorem gX0_hasServed_X0_hasPoliceman : GoodIn wsX0_hasServed (wsV RX0 62 RX0 yX0_hasPoliceman wsX0_hasPoliceman) := goodIn_app (goodIn_of _ (by decide +kernel)) ggX0_hasServed_X0_hasPoliceman
theorem dX0_hasServed_0 : decode cX0_hasServed 0 = .ok (.aload_n 0, 1) := by decide +kernel
theorem dX0_hasServed_1 : decode cX0_hasServed 1 = .ok (.iload_n 1, 1) := by decide +kernel
theorem dX0_hasServed_2 : decode cX0_hasServed 2 = .ok (.invokevirtual 51, 3) := by decide +kernel
theorem dX0_hasServed_5 : decode cX0_hasServed 5 = .ok (.ifCond .eq 28, 3) := by decide +kernel
theorem dX0_hasServed_8 : decode cX0_hasServed 8 = .ok (.aload_n 0, 1) := by decide +kernel
theorem dX0_hasServed_9 : decode cX0_hasServed 9 = .ok (.iload_n 1, 1) := by decide +kernel
theorem dX0_hasServed_10 : decode cX0_hasServed 10 = .ok (.invokevirtual 62, 3) := by decide +kernel
theorem dX0_hasServed_13 : decode cX0_hasServed 13 = .ok (.ifCond .eq 20, 3) := by decide +kernel
theorem dX0_hasServed_16 : decode cX0_hasServed 16 = .ok (.aload_n 0, 1) := by decide +kernel
theorem dX0_hasServed_17 : decode cX0_hasServed 17 = .ok (.getfield 28, 3) := by decide +kernel
theorem dX0_hasServed_20 : decode cX0_hasServed 20 = .ok (.iload_n 1, 1) := by decide +kernel
theorem dX0_hasServed_21 : decode cX0_hasServed 21 = .ok (.iaload, 1) := by decide +kernel
theorem dX0_hasServed_22 : decode cX0_hasServed 22 = .ok (.aload_n 0, 1) := by decide +kernel
theorem dX0_hasServed_23 : decode cX0_hasServed 23 = .ok (.getfield 9, 3) := by decide +kernel
theorem dX0_hasServed_26 : decode cX0_hasServed 26 = .ok (.if_icmp .lt 7, 3) := by decide +kernel
theorem dX0_hasServed_29 : decode cX0_hasServed 29 = .ok (.iconst 1, 1) := by decide +kernel
theorem dX0_hasServed_30 : decode cX0_hasServed 30 = .ok (.goto 4, 3) := by decide +kernel
theorem dX0_hasServed_33 : decode cX0_hasServed 33 = .ok (.iconst 0, 1) := by decide +kernel
theorem dX0_hasServed_34 : decode cX0_hasServed 34 = .ok (.ireturn, 1) := by decide +kernel
set_option maxRecDepth 20000 in
theorem ggX0_canBeWithdrawn_X0_isThere : GoodIn wsX0_canBeWithdrawn wsX0_isThere := goodIn_r _ [5, 6, 27, 28, 29, 30, 31, 32, 33, 34, 35, 36, 37] (by decide +kernel) (by decide +kernel)
set_option maxRecDepth 20000 in
theorem gX0_canBeWithdrawn_X0_isThere : GoodIn wsX0_canBeWithdrawn (wsV RX0 51 RX0 yX0_isThere wsX0_isThere) := goodIn_app (goodIn_of _ (by decide +kernel)) ggX0_canBeWithdrawn_X0_isThere
set_option maxRecDepth 20000 in
theorem ggX0_canBeWithdrawn_X0_isWithdrawn : GoodIn wsX0_canBeWithdrawn wsX0_isWithdrawn := goodIn_r _ [10, 11, 27, 28, 29, 30, 31, 32, 33, 34, 35, 36, 37] (by decide +kernel) (by decide +kernel)
set_option maxRecDepth 20000 in
theorem gX0_canBeWithdrawn_X0_isWithdrawn : GoodIn wsX0_canBeWithdrawn (wsV RX0 59 RX0 yX0_isWithdrawn wsX0_isWithdrawn) := goodIn_app (goodIn_of _ (by decide +kernel)) ggX0_canBeWithdrawn_X0_isWithdrawn
set_option maxRecDepth 20000 in
theorem ggX0_canBeWithdrawn_X0_hasServed : GoodIn wsX0_canBeWithdrawn wsX0_hasServed := goodIn_r _ [15, 16, 17, 1, 2, 3, 4, 5, 6, 18, 19, 20, 21, 22, 23, 7, 8, 9, 10, 11, 24, 25, 26, 27, 28, 29, 30, 31, 32, 33, 34, 35, 36, 37] (by decide +kernel) (by decide +kernel)
set_option maxRecDepth 20000 in
theorem gX0_canBeWithdrawn_X0_hasServed : GoodIn wsX0_canBeWithdrawn (wsV RX0 65 RX0 yX0_hasServed wsX0_hasServed) := goodIn_app (goodIn_of _ (by decide +kernel)) ggX0_canBeWithdrawn_X0_hasServed
theorem dX0_canBeWithdrawn_0 : decode cX0_canBeWithdrawn 0 = .ok (.aload_n 0, 1) := by decide +kernel
theorem dX0_canBeWithdrawn_1 : decode cX0_canBeWithdrawn 1 = .ok (.iload_n 1, 1) := by decide +kernel
theorem dX0_canBeWithdrawn_2 : decode cX0_canBeWithdrawn 2 = .ok (.invokevirtual 51, 3) := by decide +kernel
theorem dX0_canBeWithdrawn_5 : decode cX0_canBeWithdrawn 5 = .ok (.ifCond .eq 23, 3) := by decide +kernel
theorem dX0_canBeWithdrawn_8 : decode cX0_canBeWithdrawn 8 = .ok (.aload_n 0, 1) := by decide +kernel
theorem dX0_canBeWithdrawn_9 : decode cX0_canBeWithdrawn 9 = .ok (.iload_n 1, 1) := by decide +kernel
theorem dX0_canBeWithdrawn_10 : decode cX0_canBeWithdrawn 10 = .ok (.invokevirtual 59, 3) := by decide +kernel
theorem dX0_canBeWithdrawn_13 : decode cX0_canBeWithdrawn 13 = .ok (.ifCond .ne 15, 3) := by decide +kernel
theorem dX0_canBeWithdrawn_16 : decode cX0_canBeWithdrawn 16 = .ok (.aload_n 0, 1) := by decide +kernel
theorem dX0_canBeWithdrawn_17 : decode cX0_canBeWithdrawn 17 = .ok (.iload_n 1, 1) := by decide +kernel
theorem dX0_canBeWithdrawn_18 : decode cX0_canBeWithdrawn 18 = .ok (.invokevirtual 65, 3) := by decide +kernel
theorem dX0_canBeWithdrawn_21 : decode cX0_canBeWithdrawn 21 = .ok (.ifCond .ne 7, 3) := by decide +kernel
theorem dX0_canBeWithdrawn_24 : decode cX0_canBeWithdrawn 24 = .ok (.iconst 1, 1) := by decide +kernel
theorem dX0_canBeWithdrawn_25 : decode cX0_canBeWithdrawn 25 = .ok (.goto 4, 3) := by decide +kernel
theorem dX0_canBeWithdrawn_28 : decode cX0_canBeWithdrawn 28 = .ok (.iconst 0, 1) := by decide +kernel
theorem dX0_canBeWithdrawn_29 : decode cX0_canBeWithdrawn 29 = .ok (.ireturn, 1) := by decide +kernel
set_option maxRecDepth 20000 in
theorem ggX0_areClashing_X0_isThere : GoodIn wsX0_areClashing wsX0_isThere := goodIn_r _ [6, 7, 8, 9, 10, 11, 12, 13, 14, 15, 16, 17, 18] (by decide +kernel) (by decide +kernel)
set_option maxRecDepth 20000 in
theorem gX0_areClashing_X0_isThere : GoodIn wsX0_areClashing (wsV RX0 51 RX0 yX0_isThere wsX0_isThere) := goodIn_app (goodIn_of _ (by decide +kernel)) ggX0_areClashing_X0_isThere
theorem dX0_areClashing_0 : decode cX0_areClashing 0 = .ok (.aload_n 0, 1) := by decide +kernel
theorem dX0_areClashing_1 : decode cX0_areClashing 1 = .ok (.iload_n 1, 1) := by decide +kernel
theorem dX0_areClashing_2 : decode cX0_areClashing 2 = .ok (.invokevirtual 51, 3) := by decide +kernel
theorem dX0_areClashing_5 : decode cX0_areClashing 5 = .ok (.ifCond .eq 33, 3) := by decide +kernel
theorem dX0_areClashing_8 : decode cX0_areClashing 8 = .ok (.aload_n 0, 1) := by decide +kernel
theorem dX0_areClashing_9 : decode cX0_areClashing 9 = .ok (.iload_n 2, 1) := by decide +kernel
theorem dX0_areClashing_10 : decode cX0_areClashing 10 = .ok (.invokevirtual 51, 3) := by decide +kernel
theorem dX0_areClashing_13 : decode cX0_areClashing 13 = .ok (.ifCond .eq 25, 3) := by decide +kernel
theorem dX0_areClashing_16 : decode cX0_areClashing 16 = .ok (.aload_n 0, 1) := by decide +kernel
theorem dX0_areClashing_17 : decode cX0_areClashing 17 = .ok (.getfield 31, 3) := by decide +kernel
theorem dX0_areClashing_20 : decode cX0_areClashing 20 = .ok (.iload_n 1, 1) := by decide +kernel
theorem dX0_areClashing_21 : decode cX0_areClashing 21 = .ok (.laload, 1) := by decide +kernel
theorem dX0_areClashing_22 : decode cX0_areClashing 22 = .ok (.aload_n 0, 1) := by decide +kernel
theorem dX0_areClashing_23 : decode cX0_areClashing 23 = .ok (.getfield 31, 3) := by decide +kernel
theorem dX0_areClashing_26 : decode cX0_areClashing 26 = .ok (.iload_n 2, 1) := by decide +kernel
theorem dX0_areClashing_27 : decode cX0_areClashing 27 = .ok (.laload, 1) := by decide +kernel
theorem dX0_areClashing_28 : decode cX0_areClashing 28 = .ok (.land, 1) := by decide +kernel
theorem dX0_areClashing_29 : decode cX0_areClashing 29 = .ok (.lconst 0, 1) := by decide +kernel
theorem dX0_areClashing_30 : decode cX0_areClashing 30 = .ok (.lcmp, 1) := by decide +kernel
theorem dX0_areClashing_31 : decode cX0_areClashing 31 = .ok (.ifCond .ne 7, 3) := by decide +kernel
theorem dX0_areClashing_34 : decode cX0_areClashing 34 = .ok (.iconst 1, 1) := by decide +kernel
theorem dX0_areClashing_35 : decode cX0_areClashing 35 = .ok (.goto 4, 3) := by decide +kernel
theorem dX0_areClashing_38 : decode cX0_areClashing 38 = .ok (.iconst 0, 1) := by decide +kernel
theorem dX0_areClashing_39 : decode cX0_areClashing 39 = .ok (.ireturn, 1) := by decide +kernel
set_option maxRecDepth 20000 in
theorem ggX0_mayMarry_X0_isThere : GoodIn wsX0_mayMarry wsX0_isThere := goodIn_r _ [6, 7, 13, 14, 15, 16, 17, 18, 19, 20, 21, 22, 23] (by decide +kernel) (by decide +kernel)
set_option maxRecDepth 20000 in
theorem gX0_mayMarry_X0_isThere : GoodIn wsX0_mayMarry (wsV RX0 51 RX0 yX0_isThere wsX0_isThere) := goodIn_app (goodIn_of _ (by decide +kernel)) ggX0_mayMarry_X0_isThere
set_option maxRecDepth 20000 in
theorem ggX0_mayMarry_X0_areClashing : GoodIn wsX0_mayMarry wsX0_areClashing := goodIn_r _ [11, 12, 2, 3, 4, 5, 6, 7, 13, 14, 15, 16, 17, 18, 19, 20, 21, 22, 23] (by decide +kernel) (by decide +kernel)
set_option maxRecDepth 20000 in
theorem gX0_mayMarry_X0_areClashing : GoodIn wsX0_mayMarry (wsV RX0 68 RX0 yX0_areClashing wsX0_areClashing) := goodIn_app (goodIn_of _ (by decide +kernel)) ggX0_mayMarry_X0_areClashing
theorem dX0_mayMarry_0 : decode cX0_mayMarry 0 = .ok (.aload_n 0, 1) := by decide +kernel
theorem dX0_mayMarry_1 : decode cX0_mayMarry 1 = .ok (.iload_n 1, 1) := by decide +kernel
theorem dX0_mayMarry_2 : decode cX0_mayMarry 2 = .ok (.invokevirtual 51, 3) := by decide +kernel
theorem dX0_mayMarry_5 : decode cX0_mayMarry 5 = .ok (.ifCond .eq 39, 3) := by decide +kernel
theorem dX0_mayMarry_8 : decode cX0_mayMarry 8 = .ok (.aload_n 0, 1) := by decide +kernel
theorem dX0_mayMarry_9 : decode cX0_mayMarry 9 = .ok (.iload_n 2, 1) := by decide +kernel
theorem dX0_mayMarry_10 : decode cX0_mayMarry 10 = .ok (.invokevirtual 51, 3) := by decide +kernel
theorem dX0_mayMarry_13 : decode cX0_mayMarry 13 = .ok (.ifCond .eq 31, 3) := by decide +kernel
theorem dX0_mayMarry_16 : decode cX0_mayMarry 16 = .ok (.aload_n 0, 1) := by decide +kernel
theorem dX0_mayMarry_17 : decode cX0_mayMarry 17 = .ok (.getfield 25, 3) := by decide +kernel
theorem dX0_mayMarry_20 : decode cX0_mayMarry 20 = .ok (.iload_n 1, 1) := by decide +kernel
theorem dX0_mayMarry_21 : decode cX0_mayMarry 21 = .ok (.iaload, 1) := by decide +kernel
theorem dX0_mayMarry_22 : decode cX0_mayMarry 22 = .ok (.aload_n 0, 1) := by decide +kernel
theorem dX0_mayMarry_23 : decode cX0_mayMarry 23 = .ok (.getfield 25, 3) := by decide +kernel
theorem dX0_mayMarry_26 : decode cX0_mayMarry 26 = .ok (.iload_n 2, 1) := by decide +kernel
theorem dX0_mayMarry_27 : decode cX0_mayMarry 27 = .ok (.iaload, 1) := by decide +kernel
theorem dX0_mayMarry_28 : decode cX0_mayMarry 28 = .ok (.if_icmp .eq 16, 3) := by decide +kernel
theorem dX0_mayMarry_31 : decode cX0_mayMarry 31 = .ok (.aload_n 0, 1) := by decide +kernel
theorem dX0_mayMarry_32 : decode cX0_mayMarry 32 = .ok (.iload_n 1, 1) := by decide +kernel
theorem dX0_mayMarry_33 : decode cX0_mayMarry 33 = .ok (.iload_n 2, 1) := by decide +kernel
theorem dX0_mayMarry_34 : decode cX0_mayMarry 34 = .ok (.invokevirtual 68, 3) := by decide +kernel
theorem dX0_mayMarry_37 : decode cX0_mayMarry 37 = .ok (.ifCond .ne 7, 3) := by decide +kernel
theorem dX0_mayMarry_40 : decode cX0_mayMarry 40 = .ok (.iconst 1, 1) := by decide +kernel
theorem dX0_mayMarry_41 : decode cX0_mayMarry 41 = .ok (.goto 4, 3) := by decide +kernel
theorem dX0_mayMarry_44 : decode cX0_mayMarry 44 = .ok (.iconst 0, 1) := by decide +kernel
theorem dX0_mayMarry_45 : decode cX0_mayMarry 45 = .ok (.ireturn, 1) := by decide +kernel
theorem dX0_standing_0 : decode cX0_standing 0 = .ok (.iconst 1, 1) := by decide +kernel
theorem dX0_standing_1 : decode cX0_standing 1 = .ok (.aload_n 0, 1) := by decide +kernel
theorem dX0_standing_2 : decode cX0_standing 2 = .ok (.getfield 38, 3) := by decide +kernel
theorem dX0_standing_5 : decode cX0_standing 5 = .ok (.ishl, 1) := by decide +kernel
theorem dX0_standing_6 : decode cX0_standing 6 = .ok (.iconst 1, 1) := by decide +kernel
theorem dX0_standing_7 : decode cX0_standing 7 = .ok (.isub, 1) := by decide +kernel
theorem dX0_standing_8 : decode cX0_standing 8 = .ok (.aload_n 0, 1) := by decide +kernel
theorem dX0_standing_9 : decode cX0_standing 9 = .ok (.getfield 41, 3) := by decide +kernel
theorem dX0_standing_12 : decode cX0_standing 12 = .ok (.iconst (-1), 1) := by decide +kernel
theorem dX0_standing_13 : decode cX0_standing 13 = .ok (.ixor, 1) := by decide +kernel
theorem dX0_standing_14 : decode cX0_standing 14 = .ok (.iand, 1) := by decide +kernel
theorem dX0_standing_15 : decode cX0_standing 15 = .ok (.ireturn, 1) := by decide +kernel
set_option maxRecDepth 20000 in
theorem ggX0_liesIn_X0_isWithdrawn : GoodIn wsX0_liesIn wsX0_isWithdrawn := goodIn_r _ [6, 7, 20, 21, 22, 23, 24, 25, 26, 27, 28, 29, 30] (by decide +kernel) (by decide +kernel)
set_option maxRecDepth 20000 in
theorem gX0_liesIn_X0_isWithdrawn : GoodIn wsX0_liesIn (wsV RX0 59 RX0 yX0_isWithdrawn wsX0_isWithdrawn) := goodIn_app (goodIn_of _ (by decide +kernel)) ggX0_liesIn_X0_isWithdrawn
set_option maxRecDepth 20000 in
theorem ggX0_liesIn_X0_isSoIn : GoodIn wsX0_liesIn wsX0_isSoIn := goodIn_r _ [11, 12, 13, 14, 15, 5, 16, 1, 17, 18, 19, 20, 21, 22, 23, 24, 25, 26, 27, 28, 29, 30] (by decide +kernel) (by decide +kernel)
set_option maxRecDepth 20000 in
theorem gX0_liesIn_X0_isSoIn : GoodIn wsX0_liesIn (wsV RX0 72 RX0 yX0_isSoIn wsX0_isSoIn) := goodIn_app (goodIn_of _ (by decide +kernel)) ggX0_liesIn_X0_isSoIn
theorem dX0_liesIn_0 : decode cX0_liesIn 0 = .ok (.iconst 0, 1) := by decide +kernel
theorem dX0_liesIn_1 : decode cX0_liesIn 1 = .ok (.istore_n 2, 1) := by decide +kernel
theorem dX0_liesIn_2 : decode cX0_liesIn 2 = .ok (.iconst 0, 1) := by decide +kernel
theorem dX0_liesIn_3 : decode cX0_liesIn 3 = .ok (.istore_n 3, 1) := by decide +kernel
theorem dX0_liesIn_4 : decode cX0_liesIn 4 = .ok (.iload_n 3, 1) := by decide +kernel
theorem dX0_liesIn_5 : decode cX0_liesIn 5 = .ok (.aload_n 0, 1) := by decide +kernel
theorem dX0_liesIn_6 : decode cX0_liesIn 6 = .ok (.getfield 38, 3) := by decide +kernel
theorem dX0_liesIn_9 : decode cX0_liesIn 9 = .ok (.if_icmp .ge 32, 3) := by decide +kernel
theorem dX0_liesIn_12 : decode cX0_liesIn 12 = .ok (.aload_n 0, 1) := by decide +kernel
theorem dX0_liesIn_13 : decode cX0_liesIn 13 = .ok (.iload_n 3, 1) := by decide +kernel
theorem dX0_liesIn_14 : decode cX0_liesIn 14 = .ok (.invokevirtual 59, 3) := by decide +kernel
theorem dX0_liesIn_17 : decode cX0_liesIn 17 = .ok (.ifCond .ne 18, 3) := by decide +kernel
theorem dX0_liesIn_20 : decode cX0_liesIn 20 = .ok (.aload_n 0, 1) := by decide +kernel
theorem dX0_liesIn_21 : decode cX0_liesIn 21 = .ok (.iload_n 3, 1) := by decide +kernel
theorem dX0_liesIn_22 : decode cX0_liesIn 22 = .ok (.iload_n 1, 1) := by decide +kernel
theorem dX0_liesIn_23 : decode cX0_liesIn 23 = .ok (.invokevirtual 72, 3) := by decide +kernel
theorem dX0_liesIn_26 : decode cX0_liesIn 26 = .ok (.ifCond .ne 9, 3) := by decide +kernel
theorem dX0_liesIn_29 : decode cX0_liesIn 29 = .ok (.iload_n 2, 1) := by decide +kernel
theorem dX0_liesIn_30 : decode cX0_liesIn 30 = .ok (.iconst 1, 1) := by decide +kernel
theorem dX0_liesIn_31 : decode cX0_liesIn 31 = .ok (.iload_n 3, 1) := by decide +kernel
theorem dX0_liesIn_32 : decode cX0_liesIn 32 = .ok (.ishl, 1) := by decide +kernel
theorem dX0_liesIn_33 : decode cX0_liesIn 33 = .ok (.ior, 1) := by decide +kernel
theorem dX0_liesIn_34 : decode cX0_liesIn 34 = .ok (.istore_n 2, 1) := by decide +kernel
theorem dX0_liesIn_35 : decode cX0_liesIn 35 = .ok (.iinc 3 1, 3) := by decide +kernel
theorem dX0_liesIn_38 : decode cX0_liesIn 38 = .ok (.goto (-34), 3) := by decide +kernel
theorem dX0_liesIn_41 : decode cX0_liesIn 41 = .ok (.iload_n 2, 1) := by decide +kernel
theorem dX0_liesIn_42 : decode cX0_liesIn 42 = .ok (.ireturn, 1) := by decide +kernel
set_option maxRecDepth 20000 in
theorem ggX0_soAtOnce_X0_standing : GoodIn wsX0_soAtOnce wsX0_standing := goodIn_r _ [5, 6, 7, 35, 36, 37, 38, 39, 40, 41, 42, 43, 44, 45] (by decide +kernel) (by decide +kernel)
set_option maxRecDepth 20000 in
theorem gX0_soAtOnce_X0_standing : GoodIn wsX0_soAtOnce (wsV RX0 75 RX0 yX0_standing wsX0_standing) := goodIn_app (goodIn_of _ (by decide +kernel)) ggX0_soAtOnce_X0_standing
set_option maxRecDepth 20000 in
theorem ggX0_soAtOnce_X0_liesIn : GoodIn wsX0_soAtOnce wsX0_liesIn := goodIn_r _ [11, 6, 12, 13, 14, 4, 15, 7, 16, 17, 18, 19, 20, 21, 22, 23, 24, 25, 26, 27, 35, 36, 37, 38, 39, 40, 41, 42, 43, 44, 45] (by decide +kernel) (by decide +kernel)
set_option maxRecDepth 20000 in
theorem gX0_soAtOnce_X0_liesIn : GoodIn wsX0_soAtOnce (wsV RX0 79 RX0 yX0_liesIn wsX0_liesIn) := goodIn_app (goodIn_of _ (by decide +kernel)) ggX0_soAtOnce_X0_liesIn
set_option maxRecDepth 20000 in
theorem ggX0_soAtOnce_J6_bitCount_0f7a4 : GoodIn wsX0_soAtOnce wsJ6_bitCount_0f7a4 := goodIn_r _ [31, 32, 33, 34] (by decide +kernel) (by decide +kernel)
set_option maxRecDepth 20000 in
theorem gX0_soAtOnce_J6_bitCount_0f7a4 : GoodIn wsX0_soAtOnce (va_wsS RX0 83 yJ6_bitCount_0f7a4 wsJ6_bitCount_0f7a4) := goodIn_app (goodIn_of _ (by decide +kernel)) ggX0_soAtOnce_J6_bitCount_0f7a4
theorem dX0_soAtOnce_0 : decode cX0_soAtOnce 0 = .ok (.aload_n 0, 1) := by decide +kernel
theorem dX0_soAtOnce_1 : decode cX0_soAtOnce 1 = .ok (.invokevirtual 75, 3) := by decide +kernel
theorem dX0_soAtOnce_4 : decode cX0_soAtOnce 4 = .ok (.aload_n 0, 1) := by decide +kernel
theorem dX0_soAtOnce_5 : decode cX0_soAtOnce 5 = .ok (.iload_n 1, 1) := by decide +kernel
theorem dX0_soAtOnce_6 : decode cX0_soAtOnce 6 = .ok (.invokevirtual 79, 3) := by decide +kernel
theorem dX0_soAtOnce_9 : decode cX0_soAtOnce 9 = .ok (.iconst (-1), 1) := by decide +kernel
theorem dX0_soAtOnce_10 : decode cX0_soAtOnce 10 = .ok (.ixor, 1) := by decide +kernel
theorem dX0_soAtOnce_11 : decode cX0_soAtOnce 11 = .ok (.iand, 1) := by decide +kernel
theorem dX0_soAtOnce_12 : decode cX0_soAtOnce 12 = .ok (.invokestatic 83, 3) := by decide +kernel
theorem dX0_soAtOnce_15 : decode cX0_soAtOnce 15 = .ok (.ireturn, 1) := by decide +kernel
set_option maxRecDepth 20000 in
theorem ggX0_liarsIn_X0_liesIn : GoodIn wsX0_liarsIn wsX0_liesIn := goodIn_r _ [7, 1, 8, 9, 10, 6, 11, 12, 13, 14, 15, 16, 17, 18, 19, 20, 21, 22, 23, 24, 34, 35, 36, 37, 38, 39, 40, 41, 42, 43, 44] (by decide +kernel) (by decide +kernel)
set_option maxRecDepth 20000 in
theorem gX0_liarsIn_X0_liesIn : GoodIn wsX0_liarsIn (wsV RX0 79 RX0 yX0_liesIn wsX0_liesIn) := goodIn_app (goodIn_of _ (by decide +kernel)) ggX0_liarsIn_X0_liesIn
set_option maxRecDepth 20000 in
theorem ggX0_liarsIn_X0_isThere : GoodIn wsX0_liarsIn wsX0_isThere := goodIn_r _ [21, 1, 34, 35, 36, 37, 38, 39, 40, 41, 42, 43, 44] (by decide +kernel) (by decide +kernel)
set_option maxRecDepth 20000 in
theorem gX0_liarsIn_X0_isThere : GoodIn wsX0_liarsIn (wsV RX0 51 RX0 yX0_isThere wsX0_isThere) := goodIn_app (goodIn_of _ (by decide +kernel)) ggX0_liarsIn_X0_isThere
set_option maxRecDepth 20000 in
theorem ggX0_liarsIn_X5_isBitOf : GoodIn wsX0_liarsIn wsX5_isBitOf := goodIn_r _ [26] (by decide +kernel) (by decide +kernel)
set_option maxRecDepth 20000 in
theorem gX0_liarsIn_X5_isBitOf_n88 : GoodIn wsX0_liarsIn (wsX5_isBitOf) := ggX0_liarsIn_X5_isBitOf
set_option maxRecDepth 20000 in
theorem ggX0_liarsIn_J6_bitCount_0f7a4 : GoodIn wsX0_liarsIn wsJ6_bitCount_0f7a4 := goodIn_r _ [30, 31, 32, 33] (by decide +kernel) (by decide +kernel)
set_option maxRecDepth 20000 in
theorem gX0_liarsIn_J6_bitCount_0f7a4 : GoodIn wsX0_liarsIn (va_wsS RX0 83 yJ6_bitCount_0f7a4 wsJ6_bitCount_0f7a4) := goodIn_app (goodIn_of _ (by decide +kernel)) ggX0_liarsIn_J6_bitCount_0f7a4
theorem dX0_liarsIn_0 : decode cX0_liarsIn 0 = .ok (.aload_n 0, 1) := by decide +kernel
theorem dX0_liarsIn_1 : decode cX0_liarsIn 1 = .ok (.iload_n 1, 1) := by decide +kernel
theorem dX0_liarsIn_2 : decode cX0_liarsIn 2 = .ok (.invokevirtual 79, 3) := by decide +kernel
theorem dX0_liarsIn_5 : decode cX0_liarsIn 5 = .ok (.istore_n 2, 1) := by decide +kernel
theorem dX0_liarsIn_6 : decode cX0_liarsIn 6 = .ok (.iconst 0, 1) := by decide +kernel
theorem dX0_liarsIn_7 : decode cX0_liarsIn 7 = .ok (.istore_n 3, 1) := by decide +kernel
theorem dX0_liarsIn_8 : decode cX0_liarsIn 8 = .ok (.iconst 0, 1) := by decide +kernel
theorem dX0_liarsIn_9 : decode cX0_liarsIn 9 = .ok (.istore 4, 2) := by decide +kernel
theorem dX0_liarsIn_11 : decode cX0_liarsIn 11 = .ok (.iload 4, 2) := by decide +kernel
theorem dX0_liarsIn_13 : decode cX0_liarsIn 13 = .ok (.aload_n 0, 1) := by decide +kernel
theorem dX0_liarsIn_14 : decode cX0_liarsIn 14 = .ok (.getfield 38, 3) := by decide +kernel
theorem dX0_liarsIn_17 : decode cX0_liarsIn 17 = .ok (.if_icmp .ge 39, 3) := by decide +kernel
theorem dX0_liarsIn_20 : decode cX0_liarsIn 20 = .ok (.aload_n 0, 1) := by decide +kernel
theorem dX0_liarsIn_21 : decode cX0_liarsIn 21 = .ok (.iload 4, 2) := by decide +kernel
theorem dX0_liarsIn_23 : decode cX0_liarsIn 23 = .ok (.invokevirtual 51, 3) := by decide +kernel
theorem dX0_liarsIn_26 : decode cX0_liarsIn 26 = .ok (.ifCond .eq 24, 3) := by decide +kernel
theorem dX0_liarsIn_29 : decode cX0_liarsIn 29 = .ok (.iload_n 2, 1) := by decide +kernel
theorem dX0_liarsIn_30 : decode cX0_liarsIn 30 = .ok (.iload 4, 2) := by decide +kernel
theorem dX0_liarsIn_32 : decode cX0_liarsIn 32 = .ok (.invokestatic 88, 3) := by decide +kernel
theorem dX0_liarsIn_35 : decode cX0_liarsIn 35 = .ok (.ifCond .eq 15, 3) := by decide +kernel
theorem dX0_liarsIn_38 : decode cX0_liarsIn 38 = .ok (.iload_n 3, 1) := by decide +kernel
theorem dX0_liarsIn_39 : decode cX0_liarsIn 39 = .ok (.iconst 1, 1) := by decide +kernel
theorem dX0_liarsIn_40 : decode cX0_liarsIn 40 = .ok (.aload_n 0, 1) := by decide +kernel
theorem dX0_liarsIn_41 : decode cX0_liarsIn 41 = .ok (.getfield 25, 3) := by decide +kernel
theorem dX0_liarsIn_44 : decode cX0_liarsIn 44 = .ok (.iload 4, 2) := by decide +kernel
theorem dX0_liarsIn_46 : decode cX0_liarsIn 46 = .ok (.iaload, 1) := by decide +kernel
theorem dX0_liarsIn_47 : decode cX0_liarsIn 47 = .ok (.ishl, 1) := by decide +kernel
theorem dX0_liarsIn_48 : decode cX0_liarsIn 48 = .ok (.ior, 1) := by decide +kernel
theorem dX0_liarsIn_49 : decode cX0_liarsIn 49 = .ok (.istore_n 3, 1) := by decide +kernel
theorem dX0_liarsIn_50 : decode cX0_liarsIn 50 = .ok (.iinc 4 1, 3) := by decide +kernel
theorem dX0_liarsIn_53 : decode cX0_liarsIn 53 = .ok (.goto (-42), 3) := by decide +kernel
theorem dX0_liarsIn_56 : decode cX0_liarsIn 56 = .ok (.iload_n 3, 1) := by decide +kernel
theorem dX0_liarsIn_57 : decode cX0_liarsIn 57 = .ok (.invokestatic 83, 3) := by decide +kernel
theorem dX0_liarsIn_60 : decode cX0_liarsIn 60 = .ok (.ireturn, 1) := by decide +kernel
set_option maxRecDepth 20000 in
theorem ggX0_policedWorlds_X0_isThere : GoodIn wsX0_policedWorlds wsX0_isThere := goodIn_r _ [7, 8, 14, 15, 16, 17, 18, 19, 20, 21, 22, 23, 24] (by decide +kernel) (by decide +kernel)
set_option maxRecDepth 20000 in
theorem gX0_policedWorlds_X0_isThere : GoodIn wsX0_policedWorlds (wsV RX0 51 RX0 yX0_isThere wsX0_isThere) := goodIn_app (goodIn_of _ (by decide +kernel)) ggX0_policedWorlds_X0_isThere
set_option maxRecDepth 20000 in
theorem ggX0_policedWorlds_X0_isWithdrawn : GoodIn wsX0_policedWorlds wsX0_isWithdrawn := goodIn_r _ [12, 13, 14, 15, 16, 17, 18, 19, 20, 21, 22, 23, 24] (by decide +kernel) (by decide +kernel)
set_option maxRecDepth 20000 in
theorem gX0_policedWorlds_X0_isWithdrawn : GoodIn wsX0_policedWorlds (wsV RX0 59 RX0 yX0_isWithdrawn wsX0_isWithdrawn) := goodIn_app (goodIn_of _ (by decide +kernel)) ggX0_policedWorlds_X0_isWithdrawn
theorem dX0_policedWorlds_0 : decode cX0_policedWorlds 0 = .ok (.aload_n 0, 1) := by decide +kernel
theorem dX0_policedWorlds_1 : decode cX0_policedWorlds 1 = .ok (.iload_n 1, 1) := by decide +kernel
theorem dX0_policedWorlds_2 : decode cX0_policedWorlds 2 = .ok (.invokevirtual 51, 3) := by decide +kernel
theorem dX0_policedWorlds_5 : decode cX0_policedWorlds 5 = .ok (.ifCond .eq 11, 3) := by decide +kernel
theorem dX0_policedWorlds_8 : decode cX0_policedWorlds 8 = .ok (.aload_n 0, 1) := by decide +kernel
theorem dX0_policedWorlds_9 : decode cX0_policedWorlds 9 = .ok (.iload_n 1, 1) := by decide +kernel
theorem dX0_policedWorlds_10 : decode cX0_policedWorlds 10 = .ok (.invokevirtual 59, 3) := by decide +kernel
theorem dX0_policedWorlds_13 : decode cX0_policedWorlds 13 = .ok (.ifCond .eq 7, 3) := by decide +kernel
theorem dX0_policedWorlds_16 : decode cX0_policedWorlds 16 = .ok (.lconst 0, 1) := by decide +kernel
theorem dX0_policedWorlds_17 : decode cX0_policedWorlds 17 = .ok (.goto 13, 3) := by decide +kernel
theorem dX0_policedWorlds_20 : decode cX0_policedWorlds 20 = .ok (.aload_n 0, 1) := by decide +kernel
theorem dX0_policedWorlds_21 : decode cX0_policedWorlds 21 = .ok (.getfield 31, 3) := by decide +kernel
theorem dX0_policedWorlds_24 : decode cX0_policedWorlds 24 = .ok (.iload_n 1, 1) := by decide +kernel
theorem dX0_policedWorlds_25 : decode cX0_policedWorlds 25 = .ok (.laload, 1) := by decide +kernel
theorem dX0_policedWorlds_26 : decode cX0_policedWorlds 26 = .ok (.ldc2_w 91, 3) := by decide +kernel
theorem dX0_policedWorlds_29 : decode cX0_policedWorlds 29 = .ok (.lxor, 1) := by decide +kernel
theorem dX0_policedWorlds_30 : decode cX0_policedWorlds 30 = .ok (.lreturn, 1) := by decide +kernel
set_option maxRecDepth 20000 in
theorem ggX0_policemen_X0_liesIn : GoodIn wsX0_policemen wsX0_liesIn := goodIn_r _ [6, 7, 8, 9, 10, 5, 11, 12, 13, 14, 15, 16, 17, 18, 19, 20, 21, 22, 23, 24, 32, 33, 34, 35, 36, 37, 38, 39, 40, 41, 42] (by decide +kernel) (by decide +kernel)
set_option maxRecDepth 20000 in
theorem gX0_policemen_X0_liesIn : GoodIn wsX0_policemen (wsV RX0 79 RX0 yX0_liesIn wsX0_liesIn) := goodIn_app (goodIn_of _ (by decide +kernel)) ggX0_policemen_X0_liesIn
set_option maxRecDepth 20000 in
theorem ggX0_policemen_J6_bitCount_0f7a4 : GoodIn wsX0_policemen wsJ6_bitCount_0f7a4 := goodIn_r _ [28, 29, 30, 31] (by decide +kernel) (by decide +kernel)
set_option maxRecDepth 20000 in
theorem gX0_policemen_J6_bitCount_0f7a4 : GoodIn wsX0_policemen (va_wsS RX0 83 yJ6_bitCount_0f7a4 wsJ6_bitCount_0f7a4) := goodIn_app (goodIn_of _ (by decide +kernel)) ggX0_policemen_J6_bitCount_0f7a4
theorem dX0_policemen_0 : decode cX0_policemen 0 = .ok (.aload_n 0, 1) := by decide +kernel
theorem dX0_policemen_1 : decode cX0_policemen 1 = .ok (.aload_n 0, 1) := by decide +kernel
theorem dX0_policemen_2 : decode cX0_policemen 2 = .ok (.getfield 35, 3) := by decide +kernel
theorem dX0_policemen_5 : decode cX0_policemen 5 = .ok (.invokevirtual 79, 3) := by decide +kernel
theorem dX0_policemen_8 : decode cX0_policemen 8 = .ok (.invokestatic 83, 3) := by decide +kernel
theorem dX0_policemen_11 : decode cX0_policemen 11 = .ok (.ireturn, 1) := by decide +kernel
set_option maxRecDepth 20000 in
theorem ggX0_policemenWhoServed_X0_hasServed : GoodIn wsX0_policemenWhoServed wsX0_hasServed := goodIn_r _ [6, 7, 8, 9, 10, 11, 5, 12, 1, 13, 14, 15, 16, 17, 18, 19, 20, 21, 22, 23, 24, 25, 26, 29, 30, 31, 32, 33, 34, 35, 36, 37, 38, 39] (by decide +kernel) (by decide +kernel)
set_option maxRecDepth 20000 in
theorem gX0_policemenWhoServed_X0_hasServed : GoodIn wsX0_policemenWhoServed (wsV RX0 65 RX0 yX0_hasServed wsX0_hasServed) := goodIn_app (goodIn_of _ (by decide +kernel)) ggX0_policemenWhoServed_X0_hasServed
set_option maxRecDepth 20000 in
theorem ggX0_policemenWhoServed_X5_asNumber : GoodIn wsX0_policemenWhoServed wsX5_asNumber := goodIn_r _ [28] (by decide +kernel) (by decide +kernel)
set_option maxRecDepth 20000 in
theorem gX0_policemenWhoServed_X5_asNumber_n93 : GoodIn wsX0_policemenWhoServed (wsX5_asNumber) := ggX0_policemenWhoServed_X5_asNumber
theorem dX0_policemenWhoServed_0 : decode cX0_policemenWhoServed 0 = .ok (.iconst 0, 1) := by decide +kernel
theorem dX0_policemenWhoServed_1 : decode cX0_policemenWhoServed 1 = .ok (.istore_n 1, 1) := by decide +kernel
theorem dX0_policemenWhoServed_2 : decode cX0_policemenWhoServed 2 = .ok (.iconst 0, 1) := by decide +kernel
theorem dX0_policemenWhoServed_3 : decode cX0_policemenWhoServed 3 = .ok (.istore_n 2, 1) := by decide +kernel
theorem dX0_policemenWhoServed_4 : decode cX0_policemenWhoServed 4 = .ok (.iload_n 2, 1) := by decide +kernel
theorem dX0_policemenWhoServed_5 : decode cX0_policemenWhoServed 5 = .ok (.aload_n 0, 1) := by decide +kernel
theorem dX0_policemenWhoServed_6 : decode cX0_policemenWhoServed 6 = .ok (.getfield 38, 3) := by decide +kernel
theorem dX0_policemenWhoServed_9 : decode cX0_policemenWhoServed 9 = .ok (.if_icmp .ge 20, 3) := by decide +kernel
theorem dX0_policemenWhoServed_12 : decode cX0_policemenWhoServed 12 = .ok (.iload_n 1, 1) := by decide +kernel
theorem dX0_policemenWhoServed_13 : decode cX0_policemenWhoServed 13 = .ok (.aload_n 0, 1) := by decide +kernel
theorem dX0_policemenWhoServed_14 : decode cX0_policemenWhoServed 14 = .ok (.iload_n 2, 1) := by decide +kernel
theorem dX0_policemenWhoServed_15 : decode cX0_policemenWhoServed 15 = .ok (.invokevirtual 65, 3) := by decide +kernel
theorem dX0_policemenWhoServed_18 : decode cX0_policemenWhoServed 18 = .ok (.invokestatic 93, 3) := by decide +kernel
theorem dX0_policemenWhoServed_21 : decode cX0_policemenWhoServed 21 = .ok (.iadd, 1) := by decide +kernel
theorem dX0_policemenWhoServed_22 : decode cX0_policemenWhoServed 22 = .ok (.istore_n 1, 1) := by decide +kernel
theorem dX0_policemenWhoServed_23 : decode cX0_policemenWhoServed 23 = .ok (.iinc 2 1, 3) := by decide +kernel
theorem dX0_policemenWhoServed_26 : decode cX0_policemenWhoServed 26 = .ok (.goto (-22), 3) := by decide +kernel
theorem dX0_policemenWhoServed_29 : decode cX0_policemenWhoServed 29 = .ok (.iload_n 1, 1) := by decide +kernel
theorem dX0_policemenWhoServed_30 : decode cX0_policemenWhoServed 30 = .ok (.ireturn, 1) := by decide +kernel
set_option maxRecDepth 20000 in
theorem ggX0_takeOut_X0_isThere : GoodIn wsX0_takeOut wsX0_isThere := goodIn_r _ [7, 8, 9, 10, 11, 12, 13, 14, 15, 16, 17, 18, 19] (by decide +kernel) (by decide +kernel)
set_option maxRecDepth 20000 in
theorem gX0_takeOut_X0_isThere : GoodIn wsX0_takeOut (wsV RX0 51 RX0 yX0_isThere wsX0_isThere) := goodIn_app (goodIn_of _ (by decide +kernel)) ggX0_takeOut_X0_isThere
theorem dX0_takeOut_0 : decode cX0_takeOut 0 = .ok (.aload_n 0, 1) := by decide +kernel
theorem dX0_takeOut_1 : decode cX0_takeOut 1 = .ok (.iload_n 1, 1) := by decide +kernel
theorem dX0_takeOut_2 : decode cX0_takeOut 2 = .ok (.invokevirtual 51, 3) := by decide +kernel
theorem dX0_takeOut_5 : decode cX0_takeOut 5 = .ok (.ifCond .ne 4, 3) := by decide +kernel
theorem dX0_takeOut_8 : decode cX0_takeOut 8 = .ok (.return_, 1) := by decide +kernel
theorem dX0_takeOut_9 : decode cX0_takeOut 9 = .ok (.aload_n 0, 1) := by decide +kernel
theorem dX0_takeOut_10 : decode cX0_takeOut 10 = .ok (.dup, 1) := by decide +kernel
theorem dX0_takeOut_11 : decode cX0_takeOut 11 = .ok (.getfield 41, 3) := by decide +kernel
theorem dX0_takeOut_14 : decode cX0_takeOut 14 = .ok (.iconst 1, 1) := by decide +kernel
theorem dX0_takeOut_15 : decode cX0_takeOut 15 = .ok (.iload_n 1, 1) := by decide +kernel
theorem dX0_takeOut_16 : decode cX0_takeOut 16 = .ok (.ishl, 1) := by decide +kernel
theorem dX0_takeOut_17 : decode cX0_takeOut 17 = .ok (.ior, 1) := by decide +kernel
theorem dX0_takeOut_18 : decode cX0_takeOut 18 = .ok (.putfield 41, 3) := by decide +kernel
theorem dX0_takeOut_21 : decode cX0_takeOut 21 = .ok (.aload_n 0, 1) := by decide +kernel
theorem dX0_takeOut_22 : decode cX0_takeOut 22 = .ok (.getfield 28, 3) := by decide +kernel
theorem dX0_takeOut_25 : decode cX0_takeOut 25 = .ok (.iload_n 1, 1) := by decide +kernel
theorem dX0_takeOut_26 : decode cX0_takeOut 26 = .ok (.iconst 0, 1) := by decide +kernel
theorem dX0_takeOut_27 : decode cX0_takeOut 27 = .ok (.iastore, 1) := by decide +kernel
theorem dX0_takeOut_28 : decode cX0_takeOut 28 = .ok (.return_, 1) := by decide +kernel
set_option maxRecDepth 20000 in
theorem ggX0_turnFact_X5_isFact : GoodIn wsX0_turnFact wsX5_isFact := goodIn_r _ [6, 7, 8, 5, 9] (by decide +kernel) (by decide +kernel)
set_option maxRecDepth 20000 in
theorem gX0_turnFact_X5_isFact_n97 : GoodIn wsX0_turnFact (wsX5_isFact) := ggX0_turnFact_X5_isFact
set_option maxRecDepth 20000 in
theorem ggX0_turnFact_X0_isThere : GoodIn wsX0_turnFact wsX0_isThere := goodIn_r _ [14, 2, 27, 28, 29, 30, 31, 32, 33, 34, 35, 36, 37] (by decide +kernel) (by decide +kernel)
set_option maxRecDepth 20000 in
theorem gX0_turnFact_X0_isThere : GoodIn wsX0_turnFact (wsV RX0 51 RX0 yX0_isThere wsX0_isThere) := goodIn_app (goodIn_of _ (by decide +kernel)) ggX0_turnFact_X0_isThere
set_option maxRecDepth 20000 in
theorem ggX0_turnFact_X0_hasPoliceman : GoodIn wsX0_turnFact wsX0_hasPoliceman := goodIn_r _ [18, 19, 1, 10, 11, 12, 13, 14, 2, 20, 21, 22, 23, 24, 25, 5, 26, 27, 28, 29, 30, 31, 32, 33, 34, 35, 36, 37] (by decide +kernel) (by decide +kernel)
set_option maxRecDepth 20000 in
theorem gX0_turnFact_X0_hasPoliceman : GoodIn wsX0_turnFact (wsV RX0 62 RX0 yX0_hasPoliceman wsX0_hasPoliceman) := goodIn_app (goodIn_of _ (by decide +kernel)) ggX0_turnFact_X0_hasPoliceman
theorem dX0_turnFact_0 : decode cX0_turnFact 0 = .ok (.iload_n 1, 1) := by decide +kernel
theorem dX0_turnFact_1 : decode cX0_turnFact 1 = .ok (.invokestatic 97, 3) := by decide +kernel
theorem dX0_turnFact_4 : decode cX0_turnFact 4 = .ok (.ifCond .ne 4, 3) := by decide +kernel
theorem dX0_turnFact_7 : decode cX0_turnFact 7 = .ok (.return_, 1) := by decide +kernel
theorem dX0_turnFact_8 : decode cX0_turnFact 8 = .ok (.aload_n 0, 1) := by decide +kernel
theorem dX0_turnFact_9 : decode cX0_turnFact 9 = .ok (.dup, 1) := by decide +kernel
theorem dX0_turnFact_10 : decode cX0_turnFact 10 = .ok (.getfield 35, 3) := by decide +kernel
theorem dX0_turnFact_13 : decode cX0_turnFact 13 = .ok (.iconst 1, 1) := by decide +kernel
theorem dX0_turnFact_14 : decode cX0_turnFact 14 = .ok (.iload_n 1, 1) := by decide +kernel
theorem dX0_turnFact_15 : decode cX0_turnFact 15 = .ok (.ishl, 1) := by decide +kernel
theorem dX0_turnFact_16 : decode cX0_turnFact 16 = .ok (.ixor, 1) := by decide +kernel
theorem dX0_turnFact_17 : decode cX0_turnFact 17 = .ok (.putfield 35, 3) := by decide +kernel
theorem dX0_turnFact_20 : decode cX0_turnFact 20 = .ok (.iconst 0, 1) := by decide +kernel
theorem dX0_turnFact_21 : decode cX0_turnFact 21 = .ok (.istore_n 2, 1) := by decide +kernel
theorem dX0_turnFact_22 : decode cX0_turnFact 22 = .ok (.iload_n 2, 1) := by decide +kernel
theorem dX0_turnFact_23 : decode cX0_turnFact 23 = .ok (.aload_n 0, 1) := by decide +kernel
theorem dX0_turnFact_24 : decode cX0_turnFact 24 = .ok (.getfield 38, 3) := by decide +kernel
theorem dX0_turnFact_27 : decode cX0_turnFact 27 = .ok (.if_icmp .ge 32, 3) := by decide +kernel
theorem dX0_turnFact_30 : decode cX0_turnFact 30 = .ok (.aload_n 0, 1) := by decide +kernel
theorem dX0_turnFact_31 : decode cX0_turnFact 31 = .ok (.iload_n 2, 1) := by decide +kernel
theorem dX0_turnFact_32 : decode cX0_turnFact 32 = .ok (.invokevirtual 51, 3) := by decide +kernel
theorem dX0_turnFact_35 : decode cX0_turnFact 35 = .ok (.ifCond .eq 18, 3) := by decide +kernel
theorem dX0_turnFact_38 : decode cX0_turnFact 38 = .ok (.aload_n 0, 1) := by decide +kernel
theorem dX0_turnFact_39 : decode cX0_turnFact 39 = .ok (.iload_n 2, 1) := by decide +kernel
theorem dX0_turnFact_40 : decode cX0_turnFact 40 = .ok (.invokevirtual 62, 3) := by decide +kernel
theorem dX0_turnFact_43 : decode cX0_turnFact 43 = .ok (.ifCond .ne 10, 3) := by decide +kernel
theorem dX0_turnFact_46 : decode cX0_turnFact 46 = .ok (.aload_n 0, 1) := by decide +kernel
theorem dX0_turnFact_47 : decode cX0_turnFact 47 = .ok (.getfield 28, 3) := by decide +kernel
theorem dX0_turnFact_50 : decode cX0_turnFact 50 = .ok (.iload_n 2, 1) := by decide +kernel
theorem dX0_turnFact_51 : decode cX0_turnFact 51 = .ok (.iconst 0, 1) := by decide +kernel
theorem dX0_turnFact_52 : decode cX0_turnFact 52 = .ok (.iastore, 1) := by decide +kernel
theorem dX0_turnFact_53 : decode cX0_turnFact 53 = .ok (.iinc 2 1, 3) := by decide +kernel
theorem dX0_turnFact_56 : decode cX0_turnFact 56 = .ok (.goto (-34), 3) := by decide +kernel
theorem dX0_turnFact_59 : decode cX0_turnFact 59 = .ok (.return_, 1) := by decide +kernel
set_option maxRecDepth 20000 in
theorem ggX0_serveDay_X0_isThere : GoodIn wsX0_serveDay wsX0_isThere := goodIn_r _ [8, 2, 23, 24, 25, 26, 27, 28, 29, 30, 31, 32, 33] (by decide +kernel) (by decide +kernel)
set_option maxRecDepth 20000 in
theorem gX0_serveDay_X0_isThere : GoodIn wsX0_serveDay (wsV RX0 51 RX0 yX0_isThere wsX0_isThere) := goodIn_app (goodIn_of _ (by decide +kernel)) ggX0_serveDay_X0_isThere
set_option maxRecDepth 20000 in
theorem ggX0_serveDay_X0_hasPoliceman : GoodIn wsX0_serveDay wsX0_hasPoliceman := goodIn_r _ [12, 13, 14, 4, 5, 6, 7, 8, 2, 15, 16, 17, 18, 19, 20, 21, 22, 23, 24, 25, 26, 27, 28, 29, 30, 31, 32, 33] (by decide +kernel) (by decide +kernel)
set_option maxRecDepth 20000 in
theorem gX0_serveDay_X0_hasPoliceman : GoodIn wsX0_serveDay (wsV RX0 62 RX0 yX0_hasPoliceman wsX0_hasPoliceman) := goodIn_app (goodIn_of _ (by decide +kernel)) ggX0_serveDay_X0_hasPoliceman
theorem dX0_serveDay_0 : decode cX0_serveDay 0 = .ok (.aload_n 0, 1) := by decide +kernel
theorem dX0_serveDay_1 : decode cX0_serveDay 1 = .ok (.dup, 1) := by decide +kernel
theorem dX0_serveDay_2 : decode cX0_serveDay 2 = .ok (.getfield 44, 3) := by decide +kernel
theorem dX0_serveDay_5 : decode cX0_serveDay 5 = .ok (.iconst 1, 1) := by decide +kernel
theorem dX0_serveDay_6 : decode cX0_serveDay 6 = .ok (.iadd, 1) := by decide +kernel
theorem dX0_serveDay_7 : decode cX0_serveDay 7 = .ok (.putfield 44, 3) := by decide +kernel
theorem dX0_serveDay_10 : decode cX0_serveDay 10 = .ok (.iconst 0, 1) := by decide +kernel
theorem dX0_serveDay_11 : decode cX0_serveDay 11 = .ok (.istore_n 1, 1) := by decide +kernel
theorem dX0_serveDay_12 : decode cX0_serveDay 12 = .ok (.iload_n 1, 1) := by decide +kernel
theorem dX0_serveDay_13 : decode cX0_serveDay 13 = .ok (.aload_n 0, 1) := by decide +kernel
theorem dX0_serveDay_14 : decode cX0_serveDay 14 = .ok (.getfield 38, 3) := by decide +kernel
theorem dX0_serveDay_17 : decode cX0_serveDay 17 = .ok (.if_icmp .ge 35, 3) := by decide +kernel
theorem dX0_serveDay_20 : decode cX0_serveDay 20 = .ok (.aload_n 0, 1) := by decide +kernel
theorem dX0_serveDay_21 : decode cX0_serveDay 21 = .ok (.iload_n 1, 1) := by decide +kernel
theorem dX0_serveDay_22 : decode cX0_serveDay 22 = .ok (.invokevirtual 51, 3) := by decide +kernel
theorem dX0_serveDay_25 : decode cX0_serveDay 25 = .ok (.ifCond .eq 21, 3) := by decide +kernel
theorem dX0_serveDay_28 : decode cX0_serveDay 28 = .ok (.aload_n 0, 1) := by decide +kernel
theorem dX0_serveDay_29 : decode cX0_serveDay 29 = .ok (.iload_n 1, 1) := by decide +kernel
theorem dX0_serveDay_30 : decode cX0_serveDay 30 = .ok (.invokevirtual 62, 3) := by decide +kernel
theorem dX0_serveDay_33 : decode cX0_serveDay 33 = .ok (.ifCond .eq 13, 3) := by decide +kernel
theorem dX0_serveDay_36 : decode cX0_serveDay 36 = .ok (.aload_n 0, 1) := by decide +kernel
theorem dX0_serveDay_37 : decode cX0_serveDay 37 = .ok (.getfield 28, 3) := by decide +kernel
theorem dX0_serveDay_40 : decode cX0_serveDay 40 = .ok (.iload_n 1, 1) := by decide +kernel
theorem dX0_serveDay_41 : decode cX0_serveDay 41 = .ok (.dup2, 1) := by decide +kernel
theorem dX0_serveDay_42 : decode cX0_serveDay 42 = .ok (.iaload, 1) := by decide +kernel
theorem dX0_serveDay_43 : decode cX0_serveDay 43 = .ok (.iconst 1, 1) := by decide +kernel
theorem dX0_serveDay_44 : decode cX0_serveDay 44 = .ok (.iadd, 1) := by decide +kernel
theorem dX0_serveDay_45 : decode cX0_serveDay 45 = .ok (.iastore, 1) := by decide +kernel
theorem dX0_serveDay_46 : decode cX0_serveDay 46 = .ok (.iinc 1 1, 3) := by decide +kernel
theorem dX0_serveDay_49 : decode cX0_serveDay 49 = .ok (.goto (-37), 3) := by decide +kernel
theorem dX0_serveDay_52 : decode cX0_serveDay 52 = .ok (.return_, 1) := by decide +kernel
set_option maxRecDepth 20000 in
theorem ggX0_mateOf_X0_hasServed : GoodIn wsX0_mateOf wsX0_hasServed := goodIn_r _ [6, 7, 8, 9, 10, 11, 5, 12, 1, 13, 14, 15, 16, 17, 18, 19, 20, 21, 22, 23, 24, 25, 26, 31, 32, 33, 34, 35, 36, 37, 38, 39, 40, 41] (by decide +kernel) (by decide +kernel)
set_option maxRecDepth 20000 in
theorem gX0_mateOf_X0_hasServed : GoodIn wsX0_mateOf (wsV RX0 65 RX0 yX0_hasServed wsX0_hasServed) := goodIn_app (goodIn_of _ (by decide +kernel)) ggX0_mateOf_X0_hasServed
set_option maxRecDepth 20000 in
theorem ggX0_mateOf_X0_areClashing : GoodIn wsX0_mateOf wsX0_areClashing := goodIn_r _ [30, 17, 9, 10, 11, 5, 12, 1, 31, 32, 33, 34, 35, 36, 37, 38, 39, 40, 41] (by decide +kernel) (by decide +kernel)
set_option maxRecDepth 20000 in
theorem gX0_mateOf_X0_areClashing : GoodIn wsX0_mateOf (wsV RX0 68 RX0 yX0_areClashing wsX0_areClashing) := goodIn_app (goodIn_of _ (by decide +kernel)) ggX0_mateOf_X0_areClashing
theorem dX0_mateOf_0 : decode cX0_mateOf 0 = .ok (.aload_n 0, 1) := by decide +kernel
theorem dX0_mateOf_1 : decode cX0_mateOf 1 = .ok (.iload_n 1, 1) := by decide +kernel
theorem dX0_mateOf_2 : decode cX0_mateOf 2 = .ok (.invokevirtual 65, 3) := by decide +kernel
theorem dX0_mateOf_5 : decode cX0_mateOf 5 = .ok (.ifCond .ne 6, 3) := by decide +kernel
theorem dX0_mateOf_8 : decode cX0_mateOf 8 = .ok (.bipush (-4), 2) := by decide +kernel
theorem dX0_mateOf_10 : decode cX0_mateOf 10 = .ok (.ireturn, 1) := by decide +kernel
theorem dX0_mateOf_11 : decode cX0_mateOf 11 = .ok (.iload_n 1, 1) := by decide +kernel
theorem dX0_mateOf_12 : decode cX0_mateOf 12 = .ok (.iconst 1, 1) := by decide +kernel
theorem dX0_mateOf_13 : decode cX0_mateOf 13 = .ok (.iadd, 1) := by decide +kernel
theorem dX0_mateOf_14 : decode cX0_mateOf 14 = .ok (.istore_n 2, 1) := by decide +kernel
theorem dX0_mateOf_15 : decode cX0_mateOf 15 = .ok (.iload_n 2, 1) := by decide +kernel
theorem dX0_mateOf_16 : decode cX0_mateOf 16 = .ok (.aload_n 0, 1) := by decide +kernel
theorem dX0_mateOf_17 : decode cX0_mateOf 17 = .ok (.getfield 38, 3) := by decide +kernel
theorem dX0_mateOf_20 : decode cX0_mateOf 20 = .ok (.if_icmp .ge 28, 3) := by decide +kernel
theorem dX0_mateOf_23 : decode cX0_mateOf 23 = .ok (.aload_n 0, 1) := by decide +kernel
theorem dX0_mateOf_24 : decode cX0_mateOf 24 = .ok (.iload_n 2, 1) := by decide +kernel
theorem dX0_mateOf_25 : decode cX0_mateOf 25 = .ok (.invokevirtual 65, 3) := by decide +kernel
theorem dX0_mateOf_28 : decode cX0_mateOf 28 = .ok (.ifCond .eq 14, 3) := by decide +kernel
theorem dX0_mateOf_31 : decode cX0_mateOf 31 = .ok (.aload_n 0, 1) := by decide +kernel
theorem dX0_mateOf_32 : decode cX0_mateOf 32 = .ok (.iload_n 1, 1) := by decide +kernel
theorem dX0_mateOf_33 : decode cX0_mateOf 33 = .ok (.iload_n 2, 1) := by decide +kernel
theorem dX0_mateOf_34 : decode cX0_mateOf 34 = .ok (.invokevirtual 68, 3) := by decide +kernel
theorem dX0_mateOf_37 : decode cX0_mateOf 37 = .ok (.ifCond .eq 5, 3) := by decide +kernel
theorem dX0_mateOf_40 : decode cX0_mateOf 40 = .ok (.iload_n 2, 1) := by decide +kernel
theorem dX0_mateOf_41 : decode cX0_mateOf 41 = .ok (.ireturn, 1) := by decide +kernel
theorem dX0_mateOf_42 : decode cX0_mateOf 42 = .ok (.iinc 2 1, 3) := by decide +kernel
theorem dX0_mateOf_45 : decode cX0_mateOf 45 = .ok (.goto (-30), 3) := by decide +kernel
theorem dX0_mateOf_48 : decode cX0_mateOf 48 = .ok (.bipush (-4), 2) := by decide +kernel
theorem dX0_mateOf_50 : decode cX0_mateOf 50 = .ok (.ireturn, 1) := by decide +kernel
set_option maxRecDepth 20000 in
theorem ggX0_firstToFall_X0_mateOf : GoodIn wsX0_firstToFall wsX0_mateOf := goodIn_r _ [6, 1, 7, 8, 9, 5, 10, 11, 12, 13, 14, 15, 16, 17, 18, 19, 20, 21, 22, 23, 24, 25, 26, 27, 28, 29, 30, 31, 32, 33, 34, 35, 36, 37, 38, 39, 40, 41, 42, 43, 44, 45] (by decide +kernel) (by decide +kernel)
set_option maxRecDepth 20000 in
theorem gX0_firstToFall_X0_mateOf : GoodIn wsX0_firstToFall (wsV RX0 100 RX0 yX0_mateOf wsX0_mateOf) := goodIn_app (goodIn_of _ (by decide +kernel)) ggX0_firstToFall_X0_mateOf
theorem dX0_firstToFall_0 : decode cX0_firstToFall 0 = .ok (.iconst 0, 1) := by decide +kernel
theorem dX0_firstToFall_1 : decode cX0_firstToFall 1 = .ok (.istore_n 1, 1) := by decide +kernel
theorem dX0_firstToFall_2 : decode cX0_firstToFall 2 = .ok (.iload_n 1, 1) := by decide +kernel
theorem dX0_firstToFall_3 : decode cX0_firstToFall 3 = .ok (.aload_n 0, 1) := by decide +kernel
theorem dX0_firstToFall_4 : decode cX0_firstToFall 4 = .ok (.getfield 38, 3) := by decide +kernel
theorem dX0_firstToFall_7 : decode cX0_firstToFall 7 = .ok (.if_icmp .ge 21, 3) := by decide +kernel
theorem dX0_firstToFall_10 : decode cX0_firstToFall 10 = .ok (.aload_n 0, 1) := by decide +kernel
theorem dX0_firstToFall_11 : decode cX0_firstToFall 11 = .ok (.iload_n 1, 1) := by decide +kernel
theorem dX0_firstToFall_12 : decode cX0_firstToFall 12 = .ok (.invokevirtual 100, 3) := by decide +kernel
theorem dX0_firstToFall_15 : decode cX0_firstToFall 15 = .ok (.bipush (-4), 2) := by decide +kernel
theorem dX0_firstToFall_17 : decode cX0_firstToFall 17 = .ok (.if_icmp .eq 5, 3) := by decide +kernel
theorem dX0_firstToFall_20 : decode cX0_firstToFall 20 = .ok (.iload_n 1, 1) := by decide +kernel
theorem dX0_firstToFall_21 : decode cX0_firstToFall 21 = .ok (.ireturn, 1) := by decide +kernel
theorem dX0_firstToFall_22 : decode cX0_firstToFall 22 = .ok (.iinc 1 1, 3) := by decide +kernel
theorem dX0_firstToFall_25 : decode cX0_firstToFall 25 = .ok (.goto (-23), 3) := by decide +kernel
theorem dX0_firstToFall_28 : decode cX0_firstToFall 28 = .ok (.bipush (-4), 2) := by decide +kernel
theorem dX0_firstToFall_30 : decode cX0_firstToFall 30 = .ok (.ireturn, 1) := by decide +kernel
set_option maxRecDepth 20000 in
theorem ggX0_passDay_X0_serveDay : GoodIn wsX0_passDay wsX0_serveDay := goodIn_r _ [6, 7, 1, 8, 9, 10, 11, 5, 12, 13, 14, 15, 16, 17, 18, 19, 20, 21, 22, 23, 24, 25, 26, 44, 45, 46, 47, 48, 49, 50, 51, 52, 53, 54] (by decide +kernel) (by decide +kernel)
set_option maxRecDepth 20000 in
theorem gX0_passDay_X0_serveDay : GoodIn wsX0_passDay (wsV RX0 103 RX0 yX0_serveDay wsX0_serveDay) := goodIn_app (goodIn_of _ (by decide +kernel)) ggX0_passDay_X0_serveDay
set_option maxRecDepth 20000 in
theorem ggX0_passDay_X0_mateOf : GoodIn wsX0_passDay wsX0_mateOf := goodIn_r _ [30, 1, 31, 32, 33, 5, 34, 8, 35, 9, 10, 11, 12, 13, 14, 15, 16, 17, 18, 19, 20, 21, 22, 23, 24, 25, 26, 36, 37, 38, 39, 44, 45, 46, 47, 48, 49, 50, 51, 52, 53, 54] (by decide +kernel) (by decide +kernel)
set_option maxRecDepth 20000 in
theorem gX0_passDay_X0_mateOf : GoodIn wsX0_passDay (wsV RX0 100 RX0 yX0_mateOf wsX0_mateOf) := goodIn_app (goodIn_of _ (by decide +kernel)) ggX0_passDay_X0_mateOf
set_option maxRecDepth 20000 in
theorem ggX0_passDay_X0_takeOut : GoodIn wsX0_passDay wsX0_takeOut := goodIn_r _ [43, 23, 8, 9, 10, 11, 5, 12, 1, 44, 45, 46, 47, 48, 49, 50, 51, 52, 53, 54] (by decide +kernel) (by decide +kernel)
set_option maxRecDepth 20000 in
theorem gX0_passDay_X0_takeOut : GoodIn wsX0_passDay (wsV RX0 106 RX0 yX0_takeOut wsX0_takeOut) := goodIn_app (goodIn_of _ (by decide +kernel)) ggX0_passDay_X0_takeOut
theorem dX0_passDay_0 : decode cX0_passDay 0 = .ok (.aload_n 0, 1) := by decide +kernel
theorem dX0_passDay_1 : decode cX0_passDay 1 = .ok (.invokevirtual 103, 3) := by decide +kernel
theorem dX0_passDay_4 : decode cX0_passDay 4 = .ok (.iconst 0, 1) := by decide +kernel
theorem dX0_passDay_5 : decode cX0_passDay 5 = .ok (.istore_n 1, 1) := by decide +kernel
theorem dX0_passDay_6 : decode cX0_passDay 6 = .ok (.iconst 0, 1) := by decide +kernel
theorem dX0_passDay_7 : decode cX0_passDay 7 = .ok (.istore_n 2, 1) := by decide +kernel
theorem dX0_passDay_8 : decode cX0_passDay 8 = .ok (.iload_n 2, 1) := by decide +kernel
theorem dX0_passDay_9 : decode cX0_passDay 9 = .ok (.aload_n 0, 1) := by decide +kernel
theorem dX0_passDay_10 : decode cX0_passDay 10 = .ok (.getfield 38, 3) := by decide +kernel
theorem dX0_passDay_13 : decode cX0_passDay 13 = .ok (.if_icmp .ge 34, 3) := by decide +kernel
theorem dX0_passDay_16 : decode cX0_passDay 16 = .ok (.aload_n 0, 1) := by decide +kernel
theorem dX0_passDay_17 : decode cX0_passDay 17 = .ok (.iload_n 2, 1) := by decide +kernel
theorem dX0_passDay_18 : decode cX0_passDay 18 = .ok (.invokevirtual 100, 3) := by decide +kernel
theorem dX0_passDay_21 : decode cX0_passDay 21 = .ok (.istore_n 3, 1) := by decide +kernel
theorem dX0_passDay_22 : decode cX0_passDay 22 = .ok (.iload_n 3, 1) := by decide +kernel
theorem dX0_passDay_23 : decode cX0_passDay 23 = .ok (.bipush (-4), 2) := by decide +kernel
theorem dX0_passDay_25 : decode cX0_passDay 25 = .ok (.if_icmp .eq 16, 3) := by decide +kernel
theorem dX0_passDay_28 : decode cX0_passDay 28 = .ok (.aload_n 0, 1) := by decide +kernel
theorem dX0_passDay_29 : decode cX0_passDay 29 = .ok (.iload_n 2, 1) := by decide +kernel
theorem dX0_passDay_30 : decode cX0_passDay 30 = .ok (.invokevirtual 106, 3) := by decide +kernel
theorem dX0_passDay_33 : decode cX0_passDay 33 = .ok (.aload_n 0, 1) := by decide +kernel
theorem dX0_passDay_34 : decode cX0_passDay 34 = .ok (.iload_n 3, 1) := by decide +kernel
theorem dX0_passDay_35 : decode cX0_passDay 35 = .ok (.invokevirtual 106, 3) := by decide +kernel
theorem dX0_passDay_38 : decode cX0_passDay 38 = .ok (.iinc 1 2, 3) := by decide +kernel
theorem dX0_passDay_41 : decode cX0_passDay 41 = .ok (.iinc 2 1, 3) := by decide +kernel
theorem dX0_passDay_44 : decode cX0_passDay 44 = .ok (.goto (-36), 3) := by decide +kernel
theorem dX0_passDay_47 : decode cX0_passDay 47 = .ok (.iload_n 1, 1) := by decide +kernel
theorem dX0_passDay_48 : decode cX0_passDay 48 = .ok (.ireturn, 1) := by decide +kernel
set_option maxRecDepth 20000 in
theorem ggX0_takeDraw_X0_turnFact : GoodIn wsX0_takeDraw wsX0_turnFact := goodIn_r _ [6, 7, 1, 8, 9, 10, 11, 12, 13, 14, 15, 16, 17, 5, 18, 19, 20, 21, 22, 23, 24, 25, 26, 27, 28, 29, 30, 44, 45, 46, 47, 48, 49, 50, 51, 52, 53, 54] (by decide +kernel) (by decide +kernel)
set_option maxRecDepth 20000 in
theorem gX0_takeDraw_X0_turnFact : GoodIn wsX0_takeDraw (wsV RX0 110 RX0 yX0_turnFact wsX0_turnFact) := goodIn_app (goodIn_of _ (by decide +kernel)) ggX0_takeDraw_X0_turnFact
set_option maxRecDepth 20000 in
theorem ggX0_takeDraw_X0_canBeWithdrawn : GoodIn wsX0_takeDraw wsX0_canBeWithdrawn := goodIn_r _ [34, 15, 16, 17, 5, 18, 1, 24, 25, 26, 27, 28, 35, 36, 37, 38, 8, 39, 19, 20, 21, 22, 23, 7, 29, 10, 30, 44, 45, 46, 47, 48, 49, 50, 51, 52, 53, 54] (by decide +kernel) (by decide +kernel)
set_option maxRecDepth 20000 in
theorem gX0_takeDraw_X0_canBeWithdrawn : GoodIn wsX0_takeDraw (wsV RX0 113 RX0 yX0_canBeWithdrawn wsX0_canBeWithdrawn) := goodIn_app (goodIn_of _ (by decide +kernel)) ggX0_takeDraw_X0_canBeWithdrawn
set_option maxRecDepth 20000 in
theorem ggX0_takeDraw_X0_takeOut : GoodIn wsX0_takeDraw wsX0_takeOut := goodIn_r _ [43, 28, 8, 15, 16, 17, 5, 18, 1, 44, 45, 46, 47, 48, 49, 50, 51, 52, 53, 54] (by decide +kernel) (by decide +kernel)
set_option maxRecDepth 20000 in
theorem gX0_takeDraw_X0_takeOut : GoodIn wsX0_takeDraw (wsV RX0 106 RX0 yX0_takeOut wsX0_takeOut) := goodIn_app (goodIn_of _ (by decide +kernel)) ggX0_takeDraw_X0_takeOut
theorem dX0_takeDraw_0 : decode cX0_takeDraw 0 = .ok (.iload_n 1, 1) := by decide +kernel
theorem dX0_takeDraw_1 : decode cX0_takeDraw 1 = .ok (.bipush 8, 2) := by decide +kernel
theorem dX0_takeDraw_3 : decode cX0_takeDraw 3 = .ok (.idiv, 1) := by decide +kernel
theorem dX0_takeDraw_4 : decode cX0_takeDraw 4 = .ok (.iconst 3, 1) := by decide +kernel
theorem dX0_takeDraw_5 : decode cX0_takeDraw 5 = .ok (.irem, 1) := by decide +kernel
theorem dX0_takeDraw_6 : decode cX0_takeDraw 6 = .ok (.ifCond .ne 11, 3) := by decide +kernel
theorem dX0_takeDraw_9 : decode cX0_takeDraw 9 = .ok (.aload_n 0, 1) := by decide +kernel
theorem dX0_takeDraw_10 : decode cX0_takeDraw 10 = .ok (.iload_n 1, 1) := by decide +kernel
theorem dX0_takeDraw_11 : decode cX0_takeDraw 11 = .ok (.bipush 6, 2) := by decide +kernel
theorem dX0_takeDraw_13 : decode cX0_takeDraw 13 = .ok (.irem, 1) := by decide +kernel
theorem dX0_takeDraw_14 : decode cX0_takeDraw 14 = .ok (.invokevirtual 110, 3) := by decide +kernel
theorem dX0_takeDraw_17 : decode cX0_takeDraw 17 = .ok (.aload_n 0, 1) := by decide +kernel
theorem dX0_takeDraw_18 : decode cX0_takeDraw 18 = .ok (.getfield 38, 3) := by decide +kernel
theorem dX0_takeDraw_21 : decode cX0_takeDraw 21 = .ok (.ifCond .gt 4, 3) := by decide +kernel
theorem dX0_takeDraw_24 : decode cX0_takeDraw 24 = .ok (.return_, 1) := by decide +kernel
theorem dX0_takeDraw_25 : decode cX0_takeDraw 25 = .ok (.iload_n 1, 1) := by decide +kernel
theorem dX0_takeDraw_26 : decode cX0_takeDraw 26 = .ok (.bipush 64, 2) := by decide +kernel
theorem dX0_takeDraw_28 : decode cX0_takeDraw 28 = .ok (.idiv, 1) := by decide +kernel
theorem dX0_takeDraw_29 : decode cX0_takeDraw 29 = .ok (.aload_n 0, 1) := by decide +kernel
theorem dX0_takeDraw_30 : decode cX0_takeDraw 30 = .ok (.getfield 38, 3) := by decide +kernel
theorem dX0_takeDraw_33 : decode cX0_takeDraw 33 = .ok (.irem, 1) := by decide +kernel
theorem dX0_takeDraw_34 : decode cX0_takeDraw 34 = .ok (.istore_n 2, 1) := by decide +kernel
theorem dX0_takeDraw_35 : decode cX0_takeDraw 35 = .ok (.iload_n 1, 1) := by decide +kernel
theorem dX0_takeDraw_36 : decode cX0_takeDraw 36 = .ok (.sipush 1024, 3) := by decide +kernel
theorem dX0_takeDraw_39 : decode cX0_takeDraw 39 = .ok (.idiv, 1) := by decide +kernel
theorem dX0_takeDraw_40 : decode cX0_takeDraw 40 = .ok (.iconst 5, 1) := by decide +kernel
theorem dX0_takeDraw_41 : decode cX0_takeDraw 41 = .ok (.irem, 1) := by decide +kernel
theorem dX0_takeDraw_42 : decode cX0_takeDraw 42 = .ok (.ifCond .ne 16, 3) := by decide +kernel
theorem dX0_takeDraw_45 : decode cX0_takeDraw 45 = .ok (.aload_n 0, 1) := by decide +kernel
theorem dX0_takeDraw_46 : decode cX0_takeDraw 46 = .ok (.iload_n 2, 1) := by decide +kernel
theorem dX0_takeDraw_47 : decode cX0_takeDraw 47 = .ok (.invokevirtual 113, 3) := by decide +kernel
theorem dX0_takeDraw_50 : decode cX0_takeDraw 50 = .ok (.ifCond .eq 8, 3) := by decide +kernel
theorem dX0_takeDraw_53 : decode cX0_takeDraw 53 = .ok (.aload_n 0, 1) := by decide +kernel
theorem dX0_takeDraw_54 : decode cX0_takeDraw 54 = .ok (.iload_n 2, 1) := by decide +kernel
theorem dX0_takeDraw_55 : decode cX0_takeDraw 55 = .ok (.invokevirtual 106, 3) := by decide +kernel
theorem dX0_takeDraw_58 : decode cX0_takeDraw 58 = .ok (.return_, 1) := by decide +kernel
set_option maxRecDepth 20000 in
theorem ggX0_couldAllBeSo_X0_isThere : GoodIn wsX0_couldAllBeSo wsX0_isThere := goodIn_r _ [8, 2, 12, 13, 14, 15, 16, 17, 18, 19, 20, 21, 22] (by decide +kernel) (by decide +kernel)
set_option maxRecDepth 20000 in
theorem gX0_couldAllBeSo_X0_isThere : GoodIn wsX0_couldAllBeSo (wsV RX0 51 RX0 yX0_isThere wsX0_isThere) := goodIn_app (goodIn_of _ (by decide +kernel)) ggX0_couldAllBeSo_X0_isThere
set_option maxRecDepth 20000 in
theorem ggX0_couldAllBeSo_X5_isBitOf : GoodIn wsX0_couldAllBeSo wsX5_isBitOf := goodIn_r _ [11] (by decide +kernel) (by decide +kernel)
set_option maxRecDepth 20000 in
theorem gX0_couldAllBeSo_X5_isBitOf_n88 : GoodIn wsX0_couldAllBeSo (wsX5_isBitOf) := ggX0_couldAllBeSo_X5_isBitOf
theorem dX0_couldAllBeSo_0 : decode cX0_couldAllBeSo 0 = .ok (.ldc2_w 91, 3) := by decide +kernel
theorem dX0_couldAllBeSo_3 : decode cX0_couldAllBeSo 3 = .ok (.lstore_n 2, 1) := by decide +kernel
theorem dX0_couldAllBeSo_4 : decode cX0_couldAllBeSo 4 = .ok (.iconst 0, 1) := by decide +kernel
theorem dX0_couldAllBeSo_5 : decode cX0_couldAllBeSo 5 = .ok (.istore 4, 2) := by decide +kernel
theorem dX0_couldAllBeSo_7 : decode cX0_couldAllBeSo 7 = .ok (.iload 4, 2) := by decide +kernel
theorem dX0_couldAllBeSo_9 : decode cX0_couldAllBeSo 9 = .ok (.aload_n 0, 1) := by decide +kernel
theorem dX0_couldAllBeSo_10 : decode cX0_couldAllBeSo 10 = .ok (.getfield 38, 3) := by decide +kernel
theorem dX0_couldAllBeSo_13 : decode cX0_couldAllBeSo 13 = .ok (.if_icmp .ge 37, 3) := by decide +kernel
theorem dX0_couldAllBeSo_16 : decode cX0_couldAllBeSo 16 = .ok (.aload_n 0, 1) := by decide +kernel
theorem dX0_couldAllBeSo_17 : decode cX0_couldAllBeSo 17 = .ok (.iload 4, 2) := by decide +kernel
theorem dX0_couldAllBeSo_19 : decode cX0_couldAllBeSo 19 = .ok (.invokevirtual 51, 3) := by decide +kernel
theorem dX0_couldAllBeSo_22 : decode cX0_couldAllBeSo 22 = .ok (.ifCond .eq 22, 3) := by decide +kernel
theorem dX0_couldAllBeSo_25 : decode cX0_couldAllBeSo 25 = .ok (.iload_n 1, 1) := by decide +kernel
theorem dX0_couldAllBeSo_26 : decode cX0_couldAllBeSo 26 = .ok (.iload 4, 2) := by decide +kernel
theorem dX0_couldAllBeSo_28 : decode cX0_couldAllBeSo 28 = .ok (.invokestatic 88, 3) := by decide +kernel
theorem dX0_couldAllBeSo_31 : decode cX0_couldAllBeSo 31 = .ok (.ifCond .eq 13, 3) := by decide +kernel
theorem dX0_couldAllBeSo_34 : decode cX0_couldAllBeSo 34 = .ok (.lload_n 2, 1) := by decide +kernel
theorem dX0_couldAllBeSo_35 : decode cX0_couldAllBeSo 35 = .ok (.aload_n 0, 1) := by decide +kernel
theorem dX0_couldAllBeSo_36 : decode cX0_couldAllBeSo 36 = .ok (.getfield 31, 3) := by decide +kernel
theorem dX0_couldAllBeSo_39 : decode cX0_couldAllBeSo 39 = .ok (.iload 4, 2) := by decide +kernel
theorem dX0_couldAllBeSo_41 : decode cX0_couldAllBeSo 41 = .ok (.laload, 1) := by decide +kernel
theorem dX0_couldAllBeSo_42 : decode cX0_couldAllBeSo 42 = .ok (.land, 1) := by decide +kernel
theorem dX0_couldAllBeSo_43 : decode cX0_couldAllBeSo 43 = .ok (.lstore_n 2, 1) := by decide +kernel
theorem dX0_couldAllBeSo_44 : decode cX0_couldAllBeSo 44 = .ok (.iinc 4 1, 3) := by decide +kernel
theorem dX0_couldAllBeSo_47 : decode cX0_couldAllBeSo 47 = .ok (.goto (-40), 3) := by decide +kernel
theorem dX0_couldAllBeSo_50 : decode cX0_couldAllBeSo 50 = .ok (.lload_n 2, 1) := by decide +kernel
theorem dX0_couldAllBeSo_51 : decode cX0_couldAllBeSo 51 = .ok (.lconst 0, 1) := by decide +kernel
theorem dX0_couldAllBeSo_52 : decode cX0_couldAllBeSo 52 = .ok (.lcmp, 1) := by decide +kernel
theorem dX0_couldAllBeSo_53 : decode cX0_couldAllBeSo 53 = .ok (.ifCond .eq 7, 3) := by decide +kernel
theorem dX0_couldAllBeSo_56 : decode cX0_couldAllBeSo 56 = .ok (.iconst 1, 1) := by decide +kernel
theorem dX0_couldAllBeSo_57 : decode cX0_couldAllBeSo 57 = .ok (.goto 4, 3) := by decide +kernel
theorem dX0_couldAllBeSo_60 : decode cX0_couldAllBeSo 60 = .ok (.iconst 0, 1) := by decide +kernel
theorem dX0_couldAllBeSo_61 : decode cX0_couldAllBeSo 61 = .ok (.ireturn, 1) := by decide +kernel
set_option maxRecDepth 20000 in
theorem ggX0_lowestCore_X0_standing : GoodIn wsX0_lowestCore wsX0_standing := goodIn_r _ [5, 6, 7, 28, 29, 30, 31, 32, 33, 34, 35, 36, 37, 38] (by decide +kernel) (by decide +kernel)
set_option maxRecDepth 20000 in
theorem gX0_lowestCore_X0_standing : GoodIn wsX0_lowestCore (wsV RX0 75 RX0 yX0_standing wsX0_standing) := goodIn_app (goodIn_of _ (by decide +kernel)) ggX0_lowestCore_X0_standing
set_option maxRecDepth 20000 in
theorem ggX0_lowestCore_J6_bitCount_0f7a4 : GoodIn wsX0_lowestCore wsJ6_bitCount_0f7a4 := goodIn_r _ [11, 12, 13, 14] (by decide +kernel) (by decide +kernel)
set_option maxRecDepth 20000 in
theorem gX0_lowestCore_J6_bitCount_0f7a4 : GoodIn wsX0_lowestCore (va_wsS RX0 83 yJ6_bitCount_0f7a4 wsJ6_bitCount_0f7a4) := goodIn_app (goodIn_of _ (by decide +kernel)) ggX0_lowestCore_J6_bitCount_0f7a4
set_option maxRecDepth 20000 in
theorem ggX0_lowestCore_X0_couldAllBeSo : GoodIn wsX0_lowestCore wsX0_couldAllBeSo := goodIn_r _ [18, 19, 6, 20, 21, 22, 23, 4, 24, 25, 26, 27, 28, 29, 30, 31, 32, 33, 34, 35, 36, 37, 38] (by decide +kernel) (by decide +kernel)
set_option maxRecDepth 20000 in
theorem gX0_lowestCore_X0_couldAllBeSo : GoodIn wsX0_lowestCore (wsV RX0 116 RX0 yX0_couldAllBeSo wsX0_couldAllBeSo) := goodIn_app (goodIn_of _ (by decide +kernel)) ggX0_lowestCore_X0_couldAllBeSo
theorem dX0_lowestCore_0 : decode cX0_lowestCore 0 = .ok (.aload_n 0, 1) := by decide +kernel
theorem dX0_lowestCore_1 : decode cX0_lowestCore 1 = .ok (.invokevirtual 75, 3) := by decide +kernel
theorem dX0_lowestCore_4 : decode cX0_lowestCore 4 = .ok (.istore_n 1, 1) := by decide +kernel
theorem dX0_lowestCore_5 : decode cX0_lowestCore 5 = .ok (.bipush (-4), 2) := by decide +kernel
theorem dX0_lowestCore_7 : decode cX0_lowestCore 7 = .ok (.istore_n 2, 1) := by decide +kernel
theorem dX0_lowestCore_8 : decode cX0_lowestCore 8 = .ok (.bipush 10, 2) := by decide +kernel
theorem dX0_lowestCore_10 : decode cX0_lowestCore 10 = .ok (.istore_n 3, 1) := by decide +kernel
theorem dX0_lowestCore_11 : decode cX0_lowestCore 11 = .ok (.iconst 0, 1) := by decide +kernel
theorem dX0_lowestCore_12 : decode cX0_lowestCore 12 = .ok (.istore 4, 2) := by decide +kernel
theorem dX0_lowestCore_14 : decode cX0_lowestCore 14 = .ok (.iload 4, 2) := by decide +kernel
theorem dX0_lowestCore_16 : decode cX0_lowestCore 16 = .ok (.iload_n 1, 1) := by decide +kernel
theorem dX0_lowestCore_17 : decode cX0_lowestCore 17 = .ok (.if_icmp .gt 46, 3) := by decide +kernel
theorem dX0_lowestCore_20 : decode cX0_lowestCore 20 = .ok (.iload 4, 2) := by decide +kernel
theorem dX0_lowestCore_22 : decode cX0_lowestCore 22 = .ok (.invokestatic 83, 3) := by decide +kernel
theorem dX0_lowestCore_25 : decode cX0_lowestCore 25 = .ok (.istore 5, 2) := by decide +kernel
theorem dX0_lowestCore_27 : decode cX0_lowestCore 27 = .ok (.iload 4, 2) := by decide +kernel
theorem dX0_lowestCore_29 : decode cX0_lowestCore 29 = .ok (.iload_n 1, 1) := by decide +kernel
theorem dX0_lowestCore_30 : decode cX0_lowestCore 30 = .ok (.iconst (-1), 1) := by decide +kernel
theorem dX0_lowestCore_31 : decode cX0_lowestCore 31 = .ok (.ixor, 1) := by decide +kernel
theorem dX0_lowestCore_32 : decode cX0_lowestCore 32 = .ok (.iand, 1) := by decide +kernel
theorem dX0_lowestCore_33 : decode cX0_lowestCore 33 = .ok (.ifCond .ne 24, 3) := by decide +kernel
theorem dX0_lowestCore_36 : decode cX0_lowestCore 36 = .ok (.iload 5, 2) := by decide +kernel
theorem dX0_lowestCore_38 : decode cX0_lowestCore 38 = .ok (.iload_n 3, 1) := by decide +kernel
theorem dX0_lowestCore_39 : decode cX0_lowestCore 39 = .ok (.if_icmp .ge 18, 3) := by decide +kernel
theorem dX0_lowestCore_42 : decode cX0_lowestCore 42 = .ok (.aload_n 0, 1) := by decide +kernel
theorem dX0_lowestCore_43 : decode cX0_lowestCore 43 = .ok (.iload 4, 2) := by decide +kernel
theorem dX0_lowestCore_45 : decode cX0_lowestCore 45 = .ok (.invokevirtual 116, 3) := by decide +kernel
theorem dX0_lowestCore_48 : decode cX0_lowestCore 48 = .ok (.ifCond .ne 9, 3) := by decide +kernel
theorem dX0_lowestCore_51 : decode cX0_lowestCore 51 = .ok (.iload 4, 2) := by decide +kernel
theorem dX0_lowestCore_53 : decode cX0_lowestCore 53 = .ok (.istore_n 2, 1) := by decide +kernel
theorem dX0_lowestCore_54 : decode cX0_lowestCore 54 = .ok (.iload 5, 2) := by decide +kernel
theorem dX0_lowestCore_56 : decode cX0_lowestCore 56 = .ok (.istore_n 3, 1) := by decide +kernel
theorem dX0_lowestCore_57 : decode cX0_lowestCore 57 = .ok (.iinc 4 1, 3) := by decide +kernel
theorem dX0_lowestCore_60 : decode cX0_lowestCore 60 = .ok (.goto (-46), 3) := by decide +kernel
theorem dX0_lowestCore_63 : decode cX0_lowestCore 63 = .ok (.iload_n 2, 1) := by decide +kernel
theorem dX0_lowestCore_64 : decode cX0_lowestCore 64 = .ok (.ireturn, 1) := by decide +kernel
set_option maxRecDepth 20000 in
theorem ggX0_lowestCut_X0_standing : GoodIn wsX0_lowestCut wsX0_standing := goodIn_r _ [5, 6, 7, 28, 29, 30, 31, 32, 33, 34, 35, 36, 37, 38] (by decide +kernel) (by decide +kernel)
set_option maxRecDepth 20000 in
theorem gX0_lowestCut_X0_standing : GoodIn wsX0_lowestCut (wsV RX0 75 RX0 yX0_standing wsX0_standing) := goodIn_app (goodIn_of _ (by decide +kernel)) ggX0_lowestCut_X0_standing
set_option maxRecDepth 20000 in
theorem ggX0_lowestCut_J6_bitCount_0f7a4 : GoodIn wsX0_lowestCut wsJ6_bitCount_0f7a4 := goodIn_r _ [11, 12, 13, 14] (by decide +kernel) (by decide +kernel)
set_option maxRecDepth 20000 in
theorem gX0_lowestCut_J6_bitCount_0f7a4 : GoodIn wsX0_lowestCut (va_wsS RX0 83 yJ6_bitCount_0f7a4 wsJ6_bitCount_0f7a4) := goodIn_app (goodIn_of _ (by decide +kernel)) ggX0_lowestCut_J6_bitCount_0f7a4
set_option maxRecDepth 20000 in
theorem ggX0_lowestCut_X0_couldAllBeSo : GoodIn wsX0_lowestCut wsX0_couldAllBeSo := goodIn_r _ [18, 19, 6, 20, 21, 22, 23, 4, 24, 25, 26, 27, 28, 29, 30, 31, 32, 33, 34, 35, 36, 37, 38] (by decide +kernel) (by decide +kernel)
set_option maxRecDepth 20000 in
theorem gX0_lowestCut_X0_couldAllBeSo : GoodIn wsX0_lowestCut (wsV RX0 116 RX0 yX0_couldAllBeSo wsX0_couldAllBeSo) := goodIn_app (goodIn_of _ (by decide +kernel)) ggX0_lowestCut_X0_couldAllBeSo
theorem dX0_lowestCut_0 : decode cX0_lowestCut 0 = .ok (.aload_n 0, 1) := by decide +kernel
theorem dX0_lowestCut_1 : decode cX0_lowestCut 1 = .ok (.invokevirtual 75, 3) := by decide +kernel
theorem dX0_lowestCut_4 : decode cX0_lowestCut 4 = .ok (.istore_n 1, 1) := by decide +kernel
theorem dX0_lowestCut_5 : decode cX0_lowestCut 5 = .ok (.iload_n 1, 1) := by decide +kernel
theorem dX0_lowestCut_6 : decode cX0_lowestCut 6 = .ok (.istore_n 2, 1) := by decide +kernel
theorem dX0_lowestCut_7 : decode cX0_lowestCut 7 = .ok (.bipush 10, 2) := by decide +kernel
theorem dX0_lowestCut_9 : decode cX0_lowestCut 9 = .ok (.istore_n 3, 1) := by decide +kernel
theorem dX0_lowestCut_10 : decode cX0_lowestCut 10 = .ok (.iconst 0, 1) := by decide +kernel
theorem dX0_lowestCut_11 : decode cX0_lowestCut 11 = .ok (.istore 4, 2) := by decide +kernel
theorem dX0_lowestCut_13 : decode cX0_lowestCut 13 = .ok (.iload 4, 2) := by decide +kernel
theorem dX0_lowestCut_15 : decode cX0_lowestCut 15 = .ok (.iload_n 1, 1) := by decide +kernel
theorem dX0_lowestCut_16 : decode cX0_lowestCut 16 = .ok (.if_icmp .gt 50, 3) := by decide +kernel
theorem dX0_lowestCut_19 : decode cX0_lowestCut 19 = .ok (.iload 4, 2) := by decide +kernel
theorem dX0_lowestCut_21 : decode cX0_lowestCut 21 = .ok (.invokestatic 83, 3) := by decide +kernel
theorem dX0_lowestCut_24 : decode cX0_lowestCut 24 = .ok (.istore 5, 2) := by decide +kernel
theorem dX0_lowestCut_26 : decode cX0_lowestCut 26 = .ok (.iload 4, 2) := by decide +kernel
theorem dX0_lowestCut_28 : decode cX0_lowestCut 28 = .ok (.iload_n 1, 1) := by decide +kernel
theorem dX0_lowestCut_29 : decode cX0_lowestCut 29 = .ok (.iconst (-1), 1) := by decide +kernel
theorem dX0_lowestCut_30 : decode cX0_lowestCut 30 = .ok (.ixor, 1) := by decide +kernel
theorem dX0_lowestCut_31 : decode cX0_lowestCut 31 = .ok (.iand, 1) := by decide +kernel
theorem dX0_lowestCut_32 : decode cX0_lowestCut 32 = .ok (.ifCond .ne 28, 3) := by decide +kernel
theorem dX0_lowestCut_35 : decode cX0_lowestCut 35 = .ok (.iload 5, 2) := by decide +kernel
theorem dX0_lowestCut_37 : decode cX0_lowestCut 37 = .ok (.iload_n 3, 1) := by decide +kernel
theorem dX0_lowestCut_38 : decode cX0_lowestCut 38 = .ok (.if_icmp .ge 22, 3) := by decide +kernel
theorem dX0_lowestCut_41 : decode cX0_lowestCut 41 = .ok (.aload_n 0, 1) := by decide +kernel
theorem dX0_lowestCut_42 : decode cX0_lowestCut 42 = .ok (.iload_n 1, 1) := by decide +kernel
theorem dX0_lowestCut_43 : decode cX0_lowestCut 43 = .ok (.iload 4, 2) := by decide +kernel
theorem dX0_lowestCut_45 : decode cX0_lowestCut 45 = .ok (.iconst (-1), 1) := by decide +kernel
theorem dX0_lowestCut_46 : decode cX0_lowestCut 46 = .ok (.ixor, 1) := by decide +kernel
theorem dX0_lowestCut_47 : decode cX0_lowestCut 47 = .ok (.iand, 1) := by decide +kernel
theorem dX0_lowestCut_48 : decode cX0_lowestCut 48 = .ok (.invokevirtual 116, 3) := by decide +kernel
theorem dX0_lowestCut_51 : decode cX0_lowestCut 51 = .ok (.ifCond .eq 9, 3) := by decide +kernel
theorem dX0_lowestCut_54 : decode cX0_lowestCut 54 = .ok (.iload 4, 2) := by decide +kernel
theorem dX0_lowestCut_56 : decode cX0_lowestCut 56 = .ok (.istore_n 2, 1) := by decide +kernel
theorem dX0_lowestCut_57 : decode cX0_lowestCut 57 = .ok (.iload 5, 2) := by decide +kernel
theorem dX0_lowestCut_59 : decode cX0_lowestCut 59 = .ok (.istore_n 3, 1) := by decide +kernel
theorem dX0_lowestCut_60 : decode cX0_lowestCut 60 = .ok (.iinc 4 1, 3) := by decide +kernel
theorem dX0_lowestCut_63 : decode cX0_lowestCut 63 = .ok (.goto (-50), 3) := by decide +kernel
theorem dX0_lowestCut_66 : decode cX0_lowestCut 66 = .ok (.iload_n 2, 1) := by decide +kernel
theorem dX0_lowestCut_67 : decode cX0_lowestCut 67 = .ok (.ireturn, 1) := by decide +kernel
theorem dX1_init_0 : decode cX1_init 0 = .ok (.aload_n 0, 1) := by decide +kernel
theorem dX1_init_1 : decode cX1_init 1 = .ok (.invokespecial 3, 3) := by decide +kernel
theorem dX1_init_4 : decode cX1_init 4 = .ok (.aload_n 0, 1) := by decide +kernel
theorem dX1_init_5 : decode cX1_init 5 = .ok (.bipush 64, 2) := by decide +kernel
theorem dX1_init_7 : decode cX1_init 7 = .ok (.newarray .int, 2) := by decide +kernel
theorem dX1_init_9 : decode cX1_init 9 = .ok (.putfield 9, 3) := by decide +kernel
theorem dX1_init_12 : decode cX1_init 12 = .ok (.aload_n 0, 1) := by decide +kernel
theorem dX1_init_13 : decode cX1_init 13 = .ok (.bipush 64, 2) := by decide +kernel
theorem dX1_init_15 : decode cX1_init 15 = .ok (.newarray .int, 2) := by decide +kernel
theorem dX1_init_17 : decode cX1_init 17 = .ok (.putfield 15, 3) := by decide +kernel
theorem dX1_init_20 : decode cX1_init 20 = .ok (.return_, 1) := by decide +kernel
set_option maxRecDepth 20000 in
theorem ggX1_lookAhead_X0_liesIn : GoodIn wsX1_lookAhead wsX0_liesIn := goodIn_r _ [7, 8, 9, 10, 11, 6, 12, 13, 14, 15, 16, 17, 18, 19, 20, 21, 22, 23, 24, 25, 53, 54, 55, 56, 57, 58, 59, 60, 61, 62, 63] (by decide +kernel) (by decide +kernel)
set_option maxRecDepth 20000 in
theorem gX1_lookAhead_X0_liesIn : GoodIn wsX1_lookAhead (wsV RX1 18 RX0 yX0_liesIn wsX0_liesIn) := goodIn_app (goodIn_of _ (by decide +kernel)) ggX1_lookAhead_X0_liesIn
set_option maxRecDepth 20000 in
theorem ggX1_lookAhead_J6_bitCount_0f7a4 : GoodIn wsX1_lookAhead wsJ6_bitCount_0f7a4 := goodIn_r _ [29, 30, 31, 32] (by decide +kernel) (by decide +kernel)
set_option maxRecDepth 20000 in
theorem gX1_lookAhead_J6_bitCount_0f7a4 : GoodIn wsX1_lookAhead (va_wsS RX1 24 yJ6_bitCount_0f7a4 wsJ6_bitCount_0f7a4) := goodIn_app (goodIn_of _ (by decide +kernel)) ggX1_lookAhead_J6_bitCount_0f7a4
set_option maxRecDepth 20000 in
theorem ggX1_lookAhead_X1_bestOf : GoodIn wsX1_lookAhead wsX1_bestOf := goodIn_r _ [37, 38, 39, 40, 41, 42, 43, 44, 45, 46, 47, 36, 48, 2, 49, 24, 50, 51, 52] (by decide +kernel) (by decide +kernel)
set_option maxRecDepth 20000 in
theorem gX1_lookAhead_X1_bestOf : GoodIn wsX1_lookAhead (wsV RX1 29 RX1 yX1_bestOf wsX1_bestOf) := goodIn_app (goodIn_of _ (by decide +kernel)) ggX1_lookAhead_X1_bestOf
theorem dX1_lookAhead_0 : decode cX1_lookAhead 0 = .ok (.iconst 0, 1) := by decide +kernel
theorem dX1_lookAhead_1 : decode cX1_lookAhead 1 = .ok (.istore_n 3, 1) := by decide +kernel
theorem dX1_lookAhead_2 : decode cX1_lookAhead 2 = .ok (.iload_n 3, 1) := by decide +kernel
theorem dX1_lookAhead_3 : decode cX1_lookAhead 3 = .ok (.bipush 64, 2) := by decide +kernel
theorem dX1_lookAhead_5 : decode cX1_lookAhead 5 = .ok (.if_icmp .ge 23, 3) := by decide +kernel
theorem dX1_lookAhead_8 : decode cX1_lookAhead 8 = .ok (.aload_n 0, 1) := by decide +kernel
theorem dX1_lookAhead_9 : decode cX1_lookAhead 9 = .ok (.getfield 15, 3) := by decide +kernel
theorem dX1_lookAhead_12 : decode cX1_lookAhead 12 = .ok (.iload_n 3, 1) := by decide +kernel
theorem dX1_lookAhead_13 : decode cX1_lookAhead 13 = .ok (.aload_n 1, 1) := by decide +kernel
theorem dX1_lookAhead_14 : decode cX1_lookAhead 14 = .ok (.iload_n 3, 1) := by decide +kernel
theorem dX1_lookAhead_15 : decode cX1_lookAhead 15 = .ok (.invokevirtual 18, 3) := by decide +kernel
theorem dX1_lookAhead_18 : decode cX1_lookAhead 18 = .ok (.invokestatic 24, 3) := by decide +kernel
theorem dX1_lookAhead_21 : decode cX1_lookAhead 21 = .ok (.iastore, 1) := by decide +kernel
theorem dX1_lookAhead_22 : decode cX1_lookAhead 22 = .ok (.iinc 3 1, 3) := by decide +kernel
theorem dX1_lookAhead_25 : decode cX1_lookAhead 25 = .ok (.goto (-23), 3) := by decide +kernel
theorem dX1_lookAhead_28 : decode cX1_lookAhead 28 = .ok (.iconst 1, 1) := by decide +kernel
theorem dX1_lookAhead_29 : decode cX1_lookAhead 29 = .ok (.istore_n 3, 1) := by decide +kernel
theorem dX1_lookAhead_30 : decode cX1_lookAhead 30 = .ok (.iload_n 3, 1) := by decide +kernel
theorem dX1_lookAhead_31 : decode cX1_lookAhead 31 = .ok (.iload_n 2, 1) := by decide +kernel
theorem dX1_lookAhead_32 : decode cX1_lookAhead 32 = .ok (.if_icmp .gt 85, 3) := by decide +kernel
theorem dX1_lookAhead_35 : decode cX1_lookAhead 35 = .ok (.iconst 0, 1) := by decide +kernel
theorem dX1_lookAhead_36 : decode cX1_lookAhead 36 = .ok (.istore 4, 2) := by decide +kernel
theorem dX1_lookAhead_38 : decode cX1_lookAhead 38 = .ok (.iload 4, 2) := by decide +kernel
theorem dX1_lookAhead_40 : decode cX1_lookAhead 40 = .ok (.bipush 64, 2) := by decide +kernel
theorem dX1_lookAhead_42 : decode cX1_lookAhead 42 = .ok (.if_icmp .ge 23, 3) := by decide +kernel
theorem dX1_lookAhead_45 : decode cX1_lookAhead 45 = .ok (.aload_n 0, 1) := by decide +kernel
theorem dX1_lookAhead_46 : decode cX1_lookAhead 46 = .ok (.getfield 9, 3) := by decide +kernel
theorem dX1_lookAhead_49 : decode cX1_lookAhead 49 = .ok (.iload 4, 2) := by decide +kernel
theorem dX1_lookAhead_51 : decode cX1_lookAhead 51 = .ok (.aload_n 0, 1) := by decide +kernel
theorem dX1_lookAhead_52 : decode cX1_lookAhead 52 = .ok (.getfield 15, 3) := by decide +kernel
theorem dX1_lookAhead_55 : decode cX1_lookAhead 55 = .ok (.iload 4, 2) := by decide +kernel
theorem dX1_lookAhead_57 : decode cX1_lookAhead 57 = .ok (.iaload, 1) := by decide +kernel
theorem dX1_lookAhead_58 : decode cX1_lookAhead 58 = .ok (.iastore, 1) := by decide +kernel
theorem dX1_lookAhead_59 : decode cX1_lookAhead 59 = .ok (.iinc 4 1, 3) := by decide +kernel
theorem dX1_lookAhead_62 : decode cX1_lookAhead 62 = .ok (.goto (-24), 3) := by decide +kernel
theorem dX1_lookAhead_65 : decode cX1_lookAhead 65 = .ok (.iload_n 2, 1) := by decide +kernel
theorem dX1_lookAhead_66 : decode cX1_lookAhead 66 = .ok (.iload_n 3, 1) := by decide +kernel
theorem dX1_lookAhead_67 : decode cX1_lookAhead 67 = .ok (.isub, 1) := by decide +kernel
theorem dX1_lookAhead_68 : decode cX1_lookAhead 68 = .ok (.iconst 2, 1) := by decide +kernel
theorem dX1_lookAhead_69 : decode cX1_lookAhead 69 = .ok (.irem, 1) := by decide +kernel
theorem dX1_lookAhead_70 : decode cX1_lookAhead 70 = .ok (.ifCond .ne 7, 3) := by decide +kernel
theorem dX1_lookAhead_73 : decode cX1_lookAhead 73 = .ok (.iconst 1, 1) := by decide +kernel
theorem dX1_lookAhead_74 : decode cX1_lookAhead 74 = .ok (.goto 4, 3) := by decide +kernel
theorem dX1_lookAhead_77 : decode cX1_lookAhead 77 = .ok (.iconst 0, 1) := by decide +kernel
theorem dX1_lookAhead_78 : decode cX1_lookAhead 78 = .ok (.istore 4, 2) := by decide +kernel
theorem dX1_lookAhead_80 : decode cX1_lookAhead 80 = .ok (.iconst 0, 1) := by decide +kernel
theorem dX1_lookAhead_81 : decode cX1_lookAhead 81 = .ok (.istore 5, 2) := by decide +kernel
theorem dX1_lookAhead_83 : decode cX1_lookAhead 83 = .ok (.iload 5, 2) := by decide +kernel
theorem dX1_lookAhead_85 : decode cX1_lookAhead 85 = .ok (.bipush 64, 2) := by decide +kernel
theorem dX1_lookAhead_87 : decode cX1_lookAhead 87 = .ok (.if_icmp .ge 24, 3) := by decide +kernel
theorem dX1_lookAhead_90 : decode cX1_lookAhead 90 = .ok (.aload_n 0, 1) := by decide +kernel
theorem dX1_lookAhead_91 : decode cX1_lookAhead 91 = .ok (.getfield 15, 3) := by decide +kernel
theorem dX1_lookAhead_94 : decode cX1_lookAhead 94 = .ok (.iload 5, 2) := by decide +kernel
theorem dX1_lookAhead_96 : decode cX1_lookAhead 96 = .ok (.aload_n 0, 1) := by decide +kernel
theorem dX1_lookAhead_97 : decode cX1_lookAhead 97 = .ok (.iload 5, 2) := by decide +kernel
theorem dX1_lookAhead_99 : decode cX1_lookAhead 99 = .ok (.iload 4, 2) := by decide +kernel
theorem dX1_lookAhead_101 : decode cX1_lookAhead 101 = .ok (.invokevirtual 29, 3) := by decide +kernel
theorem dX1_lookAhead_104 : decode cX1_lookAhead 104 = .ok (.iastore, 1) := by decide +kernel
theorem dX1_lookAhead_105 : decode cX1_lookAhead 105 = .ok (.iinc 5 1, 3) := by decide +kernel
theorem dX1_lookAhead_108 : decode cX1_lookAhead 108 = .ok (.goto (-25), 3) := by decide +kernel
theorem dX1_lookAhead_111 : decode cX1_lookAhead 111 = .ok (.iinc 3 1, 3) := by decide +kernel
theorem dX1_lookAhead_114 : decode cX1_lookAhead 114 = .ok (.goto (-84), 3) := by decide +kernel
theorem dX1_lookAhead_117 : decode cX1_lookAhead 117 = .ok (.return_, 1) := by decide +kernel
set_option maxRecDepth 20000 in
theorem ggX1_bestOf_X1_worth : GoodIn wsX1_bestOf wsX1_worth := goodIn_r _ [12, 13, 14, 15, 16, 17, 18] (by decide +kernel) (by decide +kernel)
set_option maxRecDepth 20000 in
theorem gX1_bestOf_X1_worth : GoodIn wsX1_bestOf (wsV RX1 33 RX1 yX1_worth wsX1_worth) := goodIn_app (goodIn_of _ (by decide +kernel)) ggX1_bestOf_X1_worth
theorem dX1_bestOf_0 : decode cX1_bestOf 0 = .ok (.aload_n 0, 1) := by decide +kernel
theorem dX1_bestOf_1 : decode cX1_bestOf 1 = .ok (.iload_n 1, 1) := by decide +kernel
theorem dX1_bestOf_2 : decode cX1_bestOf 2 = .ok (.invokevirtual 33, 3) := by decide +kernel
theorem dX1_bestOf_5 : decode cX1_bestOf 5 = .ok (.istore_n 3, 1) := by decide +kernel
theorem dX1_bestOf_6 : decode cX1_bestOf 6 = .ok (.iconst 0, 1) := by decide +kernel
theorem dX1_bestOf_7 : decode cX1_bestOf 7 = .ok (.istore 4, 2) := by decide +kernel
theorem dX1_bestOf_9 : decode cX1_bestOf 9 = .ok (.iload 4, 2) := by decide +kernel
theorem dX1_bestOf_11 : decode cX1_bestOf 11 = .ok (.bipush 6, 2) := by decide +kernel
theorem dX1_bestOf_13 : decode cX1_bestOf 13 = .ok (.if_icmp .ge 41, 3) := by decide +kernel
theorem dX1_bestOf_16 : decode cX1_bestOf 16 = .ok (.aload_n 0, 1) := by decide +kernel
theorem dX1_bestOf_17 : decode cX1_bestOf 17 = .ok (.iload_n 1, 1) := by decide +kernel
theorem dX1_bestOf_18 : decode cX1_bestOf 18 = .ok (.iconst 1, 1) := by decide +kernel
theorem dX1_bestOf_19 : decode cX1_bestOf 19 = .ok (.iload 4, 2) := by decide +kernel
theorem dX1_bestOf_21 : decode cX1_bestOf 21 = .ok (.ishl, 1) := by decide +kernel
theorem dX1_bestOf_22 : decode cX1_bestOf 22 = .ok (.ixor, 1) := by decide +kernel
theorem dX1_bestOf_23 : decode cX1_bestOf 23 = .ok (.invokevirtual 33, 3) := by decide +kernel
theorem dX1_bestOf_26 : decode cX1_bestOf 26 = .ok (.istore 5, 2) := by decide +kernel
theorem dX1_bestOf_28 : decode cX1_bestOf 28 = .ok (.iload_n 2, 1) := by decide +kernel
theorem dX1_bestOf_29 : decode cX1_bestOf 29 = .ok (.ifCond .eq 12, 3) := by decide +kernel
theorem dX1_bestOf_32 : decode cX1_bestOf 32 = .ok (.iload_n 3, 1) := by decide +kernel
theorem dX1_bestOf_33 : decode cX1_bestOf 33 = .ok (.iload 5, 2) := by decide +kernel
theorem dX1_bestOf_35 : decode cX1_bestOf 35 = .ok (.invokestatic 36, 3) := by decide +kernel
theorem dX1_bestOf_38 : decode cX1_bestOf 38 = .ok (.goto 9, 3) := by decide +kernel
theorem dX1_bestOf_41 : decode cX1_bestOf 41 = .ok (.iload_n 3, 1) := by decide +kernel
theorem dX1_bestOf_42 : decode cX1_bestOf 42 = .ok (.iload 5, 2) := by decide +kernel
theorem dX1_bestOf_44 : decode cX1_bestOf 44 = .ok (.invokestatic 42, 3) := by decide +kernel
theorem dX1_bestOf_47 : decode cX1_bestOf 47 = .ok (.istore_n 3, 1) := by decide +kernel
theorem dX1_bestOf_48 : decode cX1_bestOf 48 = .ok (.iinc 4 1, 3) := by decide +kernel
theorem dX1_bestOf_51 : decode cX1_bestOf 51 = .ok (.goto (-42), 3) := by decide +kernel
theorem dX1_bestOf_54 : decode cX1_bestOf 54 = .ok (.iload_n 3, 1) := by decide +kernel
theorem dX1_bestOf_55 : decode cX1_bestOf 55 = .ok (.ireturn, 1) := by decide +kernel
set_option maxRecDepth 20000 in
theorem ggX1_worth_X5_isWithin : GoodIn wsX1_worth wsX5_isWithin := goodIn_r _ [4] (by decide +kernel) (by decide +kernel)
set_option maxRecDepth 20000 in
theorem gX1_worth_X5_isWithin_n45 : GoodIn wsX1_worth (wsX5_isWithin) := ggX1_worth_X5_isWithin
theorem dX1_worth_0 : decode cX1_worth 0 = .ok (.iload_n 1, 1) := by decide +kernel
theorem dX1_worth_1 : decode cX1_worth 1 = .ok (.iconst 0, 1) := by decide +kernel
theorem dX1_worth_2 : decode cX1_worth 2 = .ok (.bipush 63, 2) := by decide +kernel
theorem dX1_worth_4 : decode cX1_worth 4 = .ok (.invokestatic 45, 3) := by decide +kernel
theorem dX1_worth_7 : decode cX1_worth 7 = .ok (.ifCond .eq 12, 3) := by decide +kernel
theorem dX1_worth_10 : decode cX1_worth 10 = .ok (.aload_n 0, 1) := by decide +kernel
theorem dX1_worth_11 : decode cX1_worth 11 = .ok (.getfield 9, 3) := by decide +kernel
theorem dX1_worth_14 : decode cX1_worth 14 = .ok (.iload_n 1, 1) := by decide +kernel
theorem dX1_worth_15 : decode cX1_worth 15 = .ok (.iaload, 1) := by decide +kernel
theorem dX1_worth_16 : decode cX1_worth 16 = .ok (.goto 4, 3) := by decide +kernel
theorem dX1_worth_19 : decode cX1_worth 19 = .ok (.iconst 0, 1) := by decide +kernel
theorem dX1_worth_20 : decode cX1_worth 20 = .ok (.ireturn, 1) := by decide +kernel
set_option maxRecDepth 20000 in
theorem ggX1_outcome_X5_isWithin : GoodIn wsX1_outcome wsX5_isWithin := goodIn_r _ [4] (by decide +kernel) (by decide +kernel)
set_option maxRecDepth 20000 in
theorem gX1_outcome_X5_isWithin_n45 : GoodIn wsX1_outcome (wsX5_isWithin) := ggX1_outcome_X5_isWithin
theorem dX1_outcome_0 : decode cX1_outcome 0 = .ok (.iload_n 1, 1) := by decide +kernel
theorem dX1_outcome_1 : decode cX1_outcome 1 = .ok (.iconst 0, 1) := by decide +kernel
theorem dX1_outcome_2 : decode cX1_outcome 2 = .ok (.bipush 63, 2) := by decide +kernel
theorem dX1_outcome_4 : decode cX1_outcome 4 = .ok (.invokestatic 45, 3) := by decide +kernel
theorem dX1_outcome_7 : decode cX1_outcome 7 = .ok (.ifCond .eq 12, 3) := by decide +kernel
theorem dX1_outcome_10 : decode cX1_outcome 10 = .ok (.aload_n 0, 1) := by decide +kernel
theorem dX1_outcome_11 : decode cX1_outcome 11 = .ok (.getfield 15, 3) := by decide +kernel
theorem dX1_outcome_14 : decode cX1_outcome 14 = .ok (.iload_n 1, 1) := by decide +kernel
theorem dX1_outcome_15 : decode cX1_outcome 15 = .ok (.iaload, 1) := by decide +kernel
theorem dX1_outcome_16 : decode cX1_outcome 16 = .ok (.goto 4, 3) := by decide +kernel
theorem dX1_outcome_19 : decode cX1_outcome 19 = .ok (.iconst 0, 1) := by decide +kernel
theorem dX1_outcome_20 : decode cX1_outcome 20 = .ok (.ireturn, 1) := by decide +kernel
set_option maxRecDepth 20000 in
theorem ggX1_firstMove_X1_outcome : GoodIn wsX1_firstMove wsX1_outcome := goodIn_r _ [5, 6, 7, 8, 9, 15, 16] (by decide +kernel) (by decide +kernel)
set_option maxRecDepth 20000 in
theorem gX1_firstMove_X1_outcome : GoodIn wsX1_firstMove (wsV RX1 49 RX1 yX1_outcome wsX1_outcome) := goodIn_app (goodIn_of _ (by decide +kernel)) ggX1_firstMove_X1_outcome
set_option maxRecDepth 20000 in
theorem ggX1_firstMove_X1_worth : GoodIn wsX1_firstMove wsX1_worth := goodIn_r _ [13, 14, 7, 8, 9, 15, 16] (by decide +kernel) (by decide +kernel)
set_option maxRecDepth 20000 in
theorem gX1_firstMove_X1_worth : GoodIn wsX1_firstMove (wsV RX1 33 RX1 yX1_worth wsX1_worth) := goodIn_app (goodIn_of _ (by decide +kernel)) ggX1_firstMove_X1_worth
theorem dX1_firstMove_0 : decode cX1_firstMove 0 = .ok (.aload_n 0, 1) := by decide +kernel
theorem dX1_firstMove_1 : decode cX1_firstMove 1 = .ok (.iload_n 1, 1) := by decide +kernel
theorem dX1_firstMove_2 : decode cX1_firstMove 2 = .ok (.invokevirtual 49, 3) := by decide +kernel
theorem dX1_firstMove_5 : decode cX1_firstMove 5 = .ok (.istore_n 2, 1) := by decide +kernel
theorem dX1_firstMove_6 : decode cX1_firstMove 6 = .ok (.aload_n 0, 1) := by decide +kernel
theorem dX1_firstMove_7 : decode cX1_firstMove 7 = .ok (.iload_n 1, 1) := by decide +kernel
theorem dX1_firstMove_8 : decode cX1_firstMove 8 = .ok (.invokevirtual 33, 3) := by decide +kernel
theorem dX1_firstMove_11 : decode cX1_firstMove 11 = .ok (.iload_n 2, 1) := by decide +kernel
theorem dX1_firstMove_12 : decode cX1_firstMove 12 = .ok (.if_icmp .ne 6, 3) := by decide +kernel
theorem dX1_firstMove_15 : decode cX1_firstMove 15 = .ok (.bipush (-4), 2) := by decide +kernel
theorem dX1_firstMove_17 : decode cX1_firstMove 17 = .ok (.ireturn, 1) := by decide +kernel
theorem dX1_firstMove_18 : decode cX1_firstMove 18 = .ok (.iconst 0, 1) := by decide +kernel
theorem dX1_firstMove_19 : decode cX1_firstMove 19 = .ok (.istore_n 3, 1) := by decide +kernel
theorem dX1_firstMove_20 : decode cX1_firstMove 20 = .ok (.iload_n 3, 1) := by decide +kernel
theorem dX1_firstMove_21 : decode cX1_firstMove 21 = .ok (.bipush 6, 2) := by decide +kernel
theorem dX1_firstMove_23 : decode cX1_firstMove 23 = .ok (.if_icmp .ge 24, 3) := by decide +kernel
theorem dX1_firstMove_26 : decode cX1_firstMove 26 = .ok (.aload_n 0, 1) := by decide +kernel
theorem dX1_firstMove_27 : decode cX1_firstMove 27 = .ok (.iload_n 1, 1) := by decide +kernel
theorem dX1_firstMove_28 : decode cX1_firstMove 28 = .ok (.iconst 1, 1) := by decide +kernel
theorem dX1_firstMove_29 : decode cX1_firstMove 29 = .ok (.iload_n 3, 1) := by decide +kernel
theorem dX1_firstMove_30 : decode cX1_firstMove 30 = .ok (.ishl, 1) := by decide +kernel
theorem dX1_firstMove_31 : decode cX1_firstMove 31 = .ok (.ixor, 1) := by decide +kernel
theorem dX1_firstMove_32 : decode cX1_firstMove 32 = .ok (.invokevirtual 33, 3) := by decide +kernel
theorem dX1_firstMove_35 : decode cX1_firstMove 35 = .ok (.iload_n 2, 1) := by decide +kernel
theorem dX1_firstMove_36 : decode cX1_firstMove 36 = .ok (.if_icmp .ne 5, 3) := by decide +kernel
theorem dX1_firstMove_39 : decode cX1_firstMove 39 = .ok (.iload_n 3, 1) := by decide +kernel
theorem dX1_firstMove_40 : decode cX1_firstMove 40 = .ok (.ireturn, 1) := by decide +kernel
theorem dX1_firstMove_41 : decode cX1_firstMove 41 = .ok (.iinc 3 1, 3) := by decide +kernel
theorem dX1_firstMove_44 : decode cX1_firstMove 44 = .ok (.goto (-24), 3) := by decide +kernel
theorem dX1_firstMove_47 : decode cX1_firstMove 47 = .ok (.bipush (-4), 2) := by decide +kernel
theorem dX1_firstMove_49 : decode cX1_firstMove 49 = .ok (.ireturn, 1) := by decide +kernel
set_option maxRecDepth 20000 in
theorem ggX2_init_X0_init : GoodIn wsX2_init wsX0_init := goodIn_r _ [9, 10, 2, 3, 11, 12, 13, 14, 15, 16, 17, 18, 19, 22, 23, 24, 25, 26, 27, 28, 29, 30, 31, 32] (by decide +kernel) (by decide +kernel)
set_option maxRecDepth 20000 in
theorem gX2_init_X0_init_n15 : GoodIn wsX2_init (wsX0_init) := ggX2_init_X0_init
theorem dX2_init_0 : decode cX2_init 0 = .ok (.aload_n 0, 1) := by decide +kernel
theorem dX2_init_1 : decode cX2_init 1 = .ok (.invokespecial 1, 3) := by decide +kernel
theorem dX2_init_4 : decode cX2_init 4 = .ok (.aload_n 0, 1) := by decide +kernel
theorem dX2_init_5 : decode cX2_init 5 = .ok (.iload_n 1, 1) := by decide +kernel
theorem dX2_init_6 : decode cX2_init 6 = .ok (.ifCond .ge 7, 3) := by decide +kernel
theorem dX2_init_9 : decode cX2_init 9 = .ok (.iconst 0, 1) := by decide +kernel
theorem dX2_init_10 : decode cX2_init 10 = .ok (.goto 4, 3) := by decide +kernel
theorem dX2_init_13 : decode cX2_init 13 = .ok (.iload_n 1, 1) := by decide +kernel
theorem dX2_init_14 : decode cX2_init 14 = .ok (.anewarray 7, 3) := by decide +kernel
theorem dX2_init_17 : decode cX2_init 17 = .ok (.putfield 9, 3) := by decide +kernel
theorem dX2_init_20 : decode cX2_init 20 = .ok (.iconst 0, 1) := by decide +kernel
theorem dX2_init_21 : decode cX2_init 21 = .ok (.istore_n 2, 1) := by decide +kernel
theorem dX2_init_22 : decode cX2_init 22 = .ok (.iload_n 2, 1) := by decide +kernel
theorem dX2_init_23 : decode cX2_init 23 = .ok (.aload_n 0, 1) := by decide +kernel
theorem dX2_init_24 : decode cX2_init 24 = .ok (.getfield 9, 3) := by decide +kernel
theorem dX2_init_27 : decode cX2_init 27 = .ok (.arraylength, 1) := by decide +kernel
theorem dX2_init_28 : decode cX2_init 28 = .ok (.if_icmp .ge 22, 3) := by decide +kernel
theorem dX2_init_31 : decode cX2_init 31 = .ok (.aload_n 0, 1) := by decide +kernel
theorem dX2_init_32 : decode cX2_init 32 = .ok (.getfield 9, 3) := by decide +kernel
theorem dX2_init_35 : decode cX2_init 35 = .ok (.iload_n 2, 1) := by decide +kernel
theorem dX2_init_36 : decode cX2_init 36 = .ok (.new 7, 3) := by decide +kernel
theorem dX2_init_39 : decode cX2_init 39 = .ok (.dup, 1) := by decide +kernel
theorem dX2_init_40 : decode cX2_init 40 = .ok (.invokespecial 15, 3) := by decide +kernel
theorem dX2_init_43 : decode cX2_init 43 = .ok (.aastore, 1) := by decide +kernel
theorem dX2_init_44 : decode cX2_init 44 = .ok (.iinc 2 1, 3) := by decide +kernel
theorem dX2_init_47 : decode cX2_init 47 = .ok (.goto (-25), 3) := by decide +kernel
theorem dX2_init_50 : decode cX2_init 50 = .ok (.return_, 1) := by decide +kernel
theorem dX2_clear_0 : decode cX2_clear 0 = .ok (.aload_n 0, 1) := by decide +kernel
theorem dX2_clear_1 : decode cX2_clear 1 = .ok (.iconst 0, 1) := by decide +kernel
theorem dX2_clear_2 : decode cX2_clear 2 = .ok (.putfield 16, 3) := by decide +kernel
theorem dX2_clear_5 : decode cX2_clear 5 = .ok (.return_, 1) := by decide +kernel
set_option maxRecDepth 20000 in
theorem ggX2_add_X2_dropOldest : GoodIn wsX2_add wsX2_dropOldest := goodIn_r _ [7, 1, 2, 24, 25] (by decide +kernel) (by decide +kernel)
set_option maxRecDepth 20000 in
theorem gX2_add_X2_dropOldest : GoodIn wsX2_add (wsV RX2 20 RX2 yX2_dropOldest wsX2_dropOldest) := goodIn_app (goodIn_of _ (by decide +kernel)) ggX2_add_X2_dropOldest
set_option maxRecDepth 20000 in
theorem ggX2_add_X0_copy : GoodIn wsX2_add wsX0_copy := goodIn_r _ [12, 13, 14, 15, 16, 17, 18, 19, 20, 21, 22, 23, 26, 27, 28, 29, 30, 31, 32, 33, 34, 35, 36] (by decide +kernel) (by decide +kernel)
set_option maxRecDepth 20000 in
theorem gX2_add_X0_copy : GoodIn wsX2_add (wsV RX2 23 RX0 yX0_copy wsX0_copy) := goodIn_app (goodIn_of _ (by decide +kernel)) ggX2_add_X0_copy
theorem dX2_add_0 : decode cX2_add 0 = .ok (.aload_n 0, 1) := by decide +kernel
theorem dX2_add_1 : decode cX2_add 1 = .ok (.getfield 9, 3) := by decide +kernel
theorem dX2_add_4 : decode cX2_add 4 = .ok (.arraylength, 1) := by decide +kernel
theorem dX2_add_5 : decode cX2_add 5 = .ok (.ifCond .ne 4, 3) := by decide +kernel
theorem dX2_add_8 : decode cX2_add 8 = .ok (.return_, 1) := by decide +kernel
theorem dX2_add_9 : decode cX2_add 9 = .ok (.aload_n 0, 1) := by decide +kernel
theorem dX2_add_10 : decode cX2_add 10 = .ok (.getfield 16, 3) := by decide +kernel
theorem dX2_add_13 : decode cX2_add 13 = .ok (.aload_n 0, 1) := by decide +kernel
theorem dX2_add_14 : decode cX2_add 14 = .ok (.getfield 9, 3) := by decide +kernel
theorem dX2_add_17 : decode cX2_add 17 = .ok (.arraylength, 1) := by decide +kernel
theorem dX2_add_18 : decode cX2_add 18 = .ok (.if_icmp .lt 7, 3) := by decide +kernel
theorem dX2_add_21 : decode cX2_add 21 = .ok (.aload_n 0, 1) := by decide +kernel
theorem dX2_add_22 : decode cX2_add 22 = .ok (.invokevirtual 20, 3) := by decide +kernel
theorem dX2_add_25 : decode cX2_add 25 = .ok (.aload_n 0, 1) := by decide +kernel
theorem dX2_add_26 : decode cX2_add 26 = .ok (.getfield 9, 3) := by decide +kernel
theorem dX2_add_29 : decode cX2_add 29 = .ok (.aload_n 0, 1) := by decide +kernel
theorem dX2_add_30 : decode cX2_add 30 = .ok (.getfield 16, 3) := by decide +kernel
theorem dX2_add_33 : decode cX2_add 33 = .ok (.aaload, 1) := by decide +kernel
theorem dX2_add_34 : decode cX2_add 34 = .ok (.aload_n 1, 1) := by decide +kernel
theorem dX2_add_35 : decode cX2_add 35 = .ok (.invokevirtual 23, 3) := by decide +kernel
theorem dX2_add_38 : decode cX2_add 38 = .ok (.aload_n 0, 1) := by decide +kernel
theorem dX2_add_39 : decode cX2_add 39 = .ok (.dup, 1) := by decide +kernel
theorem dX2_add_40 : decode cX2_add 40 = .ok (.getfield 16, 3) := by decide +kernel
theorem dX2_add_43 : decode cX2_add 43 = .ok (.iconst 1, 1) := by decide +kernel
theorem dX2_add_44 : decode cX2_add 44 = .ok (.iadd, 1) := by decide +kernel
theorem dX2_add_45 : decode cX2_add 45 = .ok (.putfield 16, 3) := by decide +kernel
theorem dX2_add_48 : decode cX2_add 48 = .ok (.return_, 1) := by decide +kernel
theorem dX2_dropOldest_0 : decode cX2_dropOldest 0 = .ok (.aload_n 0, 1) := by decide +kernel
theorem dX2_dropOldest_1 : decode cX2_dropOldest 1 = .ok (.getfield 9, 3) := by decide +kernel
theorem dX2_dropOldest_4 : decode cX2_dropOldest 4 = .ok (.arraylength, 1) := by decide +kernel
theorem dX2_dropOldest_5 : decode cX2_dropOldest 5 = .ok (.iconst 1, 1) := by decide +kernel
theorem dX2_dropOldest_6 : decode cX2_dropOldest 6 = .ok (.isub, 1) := by decide +kernel
theorem dX2_dropOldest_7 : decode cX2_dropOldest 7 = .ok (.istore_n 1, 1) := by decide +kernel
theorem dX2_dropOldest_8 : decode cX2_dropOldest 8 = .ok (.iload_n 1, 1) := by decide +kernel
theorem dX2_dropOldest_9 : decode cX2_dropOldest 9 = .ok (.ifCond .ge 4, 3) := by decide +kernel
theorem dX2_dropOldest_12 : decode cX2_dropOldest 12 = .ok (.return_, 1) := by decide +kernel
theorem dX2_dropOldest_13 : decode cX2_dropOldest 13 = .ok (.aload_n 0, 1) := by decide +kernel
theorem dX2_dropOldest_14 : decode cX2_dropOldest 14 = .ok (.getfield 9, 3) := by decide +kernel
