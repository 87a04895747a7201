theorem dX6_fall_47 : decode cX6_fall 47 = .ok (.iinc 2 1, 3) := by decide +kernel
theorem dX6_fall_50 : decode cX6_fall 50 = .ok (.goto (-33), 3) := by decide +kernel
theorem dX6_fall_53 : decode cX6_fall 53 = .ok (.bipush (-4), 2) := by decide +kernel
theorem dX6_fall_55 : decode cX6_fall 55 = .ok (.ireturn, 1) := by decide +kernel
set_option maxRecDepth 20000 in
theorem ggX6_findWorlds_X6_asItIs : GoodIn wsX6_findWorlds wsX6_asItIs := goodIn_r _ [6, 7, 8, 9, 10, 5, 11, 30, 31, 32, 33, 34, 35, 36, 37, 38, 39, 40, 41, 42, 43, 44, 45, 46, 47, 48, 49, 50] (by decide +kernel) (by decide +kernel)
set_option maxRecDepth 20000 in
theorem gX6_findWorlds_X6_asItIs : GoodIn wsX6_findWorlds (wsV RX6 149 RX6 yX6_asItIs wsX6_asItIs) := goodIn_app (goodIn_of _ (by decide +kernel)) ggX6_findWorlds_X6_asItIs
set_option maxRecDepth 20000 in
theorem ggX6_findWorlds_X6_standing : GoodIn wsX6_findWorlds wsX6_standing := goodIn_r _ [15, 7, 30, 31, 32, 33, 34, 35, 36, 37, 38, 39, 40, 41, 42, 43, 44, 45, 46, 47, 48, 49, 50] (by decide +kernel) (by decide +kernel)
set_option maxRecDepth 20000 in
theorem gX6_findWorlds_X6_standing : GoodIn wsX6_findWorlds (wsV RX6 174 RX6 yX6_standing wsX6_standing) := goodIn_app (goodIn_of _ (by decide +kernel)) ggX6_findWorlds_X6_standing
set_option maxRecDepth 20000 in
theorem ggX6_findWorlds_X6_policeIn : GoodIn wsX6_findWorlds wsX6_policeIn := goodIn_r _ [19, 7, 20, 21, 5, 22, 23, 24, 25, 26, 27, 28, 29, 30, 31, 32, 33, 34, 35, 36, 37, 38, 39, 40, 41, 42, 43, 44, 45, 46, 47, 48, 49, 50] (by decide +kernel) (by decide +kernel)
set_option maxRecDepth 20000 in
theorem gX6_findWorlds_X6_policeIn : GoodIn wsX6_findWorlds (wsV RX6 134 RX6 yX6_policeIn wsX6_policeIn) := goodIn_app (goodIn_of _ (by decide +kernel)) ggX6_findWorlds_X6_policeIn
theorem dX6_findWorlds_0 : decode cX6_findWorlds 0 = .ok (.aload_n 0, 1) := by decide +kernel
theorem dX6_findWorlds_1 : decode cX6_findWorlds 1 = .ok (.invokevirtual 149, 3) := by decide +kernel
theorem dX6_findWorlds_4 : decode cX6_findWorlds 4 = .ok (.iconst 0, 1) := by decide +kernel
theorem dX6_findWorlds_5 : decode cX6_findWorlds 5 = .ok (.istore_n 1, 1) := by decide +kernel
theorem dX6_findWorlds_6 : decode cX6_findWorlds 6 = .ok (.iload_n 1, 1) := by decide +kernel
theorem dX6_findWorlds_7 : decode cX6_findWorlds 7 = .ok (.bipush 64, 2) := by decide +kernel
theorem dX6_findWorlds_9 : decode cX6_findWorlds 9 = .ok (.if_icmp .ge 27, 3) := by decide +kernel
theorem dX6_findWorlds_12 : decode cX6_findWorlds 12 = .ok (.aload_n 0, 1) := by decide +kernel
theorem dX6_findWorlds_13 : decode cX6_findWorlds 13 = .ok (.getfield 34, 3) := by decide +kernel
theorem dX6_findWorlds_16 : decode cX6_findWorlds 16 = .ok (.iload_n 1, 1) := by decide +kernel
theorem dX6_findWorlds_17 : decode cX6_findWorlds 17 = .ok (.aload_n 0, 1) := by decide +kernel
theorem dX6_findWorlds_18 : decode cX6_findWorlds 18 = .ok (.invokevirtual 174, 3) := by decide +kernel
theorem dX6_findWorlds_21 : decode cX6_findWorlds 21 = .ok (.aload_n 0, 1) := by decide +kernel
theorem dX6_findWorlds_22 : decode cX6_findWorlds 22 = .ok (.iload_n 1, 1) := by decide +kernel
theorem dX6_findWorlds_23 : decode cX6_findWorlds 23 = .ok (.invokevirtual 134, 3) := by decide +kernel
theorem dX6_findWorlds_26 : decode cX6_findWorlds 26 = .ok (.iconst (-1), 1) := by decide +kernel
theorem dX6_findWorlds_27 : decode cX6_findWorlds 27 = .ok (.ixor, 1) := by decide +kernel
theorem dX6_findWorlds_28 : decode cX6_findWorlds 28 = .ok (.iand, 1) := by decide +kernel
theorem dX6_findWorlds_29 : decode cX6_findWorlds 29 = .ok (.iastore, 1) := by decide +kernel
theorem dX6_findWorlds_30 : decode cX6_findWorlds 30 = .ok (.iinc 1 1, 3) := by decide +kernel
theorem dX6_findWorlds_33 : decode cX6_findWorlds 33 = .ok (.goto (-27), 3) := by decide +kernel
theorem dX6_findWorlds_36 : decode cX6_findWorlds 36 = .ok (.return_, 1) := by decide +kernel
theorem dX6_couldAll_0 : decode cX6_couldAll 0 = .ok (.iconst 0, 1) := by decide +kernel
theorem dX6_couldAll_1 : decode cX6_couldAll 1 = .ok (.istore_n 2, 1) := by decide +kernel
theorem dX6_couldAll_2 : decode cX6_couldAll 2 = .ok (.iload_n 2, 1) := by decide +kernel
theorem dX6_couldAll_3 : decode cX6_couldAll 3 = .ok (.bipush 64, 2) := by decide +kernel
theorem dX6_couldAll_5 : decode cX6_couldAll 5 = .ok (.if_icmp .ge 23, 3) := by decide +kernel
theorem dX6_couldAll_8 : decode cX6_couldAll 8 = .ok (.aload_n 0, 1) := by decide +kernel
theorem dX6_couldAll_9 : decode cX6_couldAll 9 = .ok (.getfield 34, 3) := by decide +kernel
theorem dX6_couldAll_12 : decode cX6_couldAll 12 = .ok (.iload_n 2, 1) := by decide +kernel
theorem dX6_couldAll_13 : decode cX6_couldAll 13 = .ok (.iaload, 1) := by decide +kernel
theorem dX6_couldAll_14 : decode cX6_couldAll 14 = .ok (.iload_n 1, 1) := by decide +kernel
theorem dX6_couldAll_15 : decode cX6_couldAll 15 = .ok (.iand, 1) := by decide +kernel
theorem dX6_couldAll_16 : decode cX6_couldAll 16 = .ok (.iload_n 1, 1) := by decide +kernel
theorem dX6_couldAll_17 : decode cX6_couldAll 17 = .ok (.if_icmp .ne 5, 3) := by decide +kernel
theorem dX6_couldAll_20 : decode cX6_couldAll 20 = .ok (.iconst 1, 1) := by decide +kernel
theorem dX6_couldAll_21 : decode cX6_couldAll 21 = .ok (.ireturn, 1) := by decide +kernel
theorem dX6_couldAll_22 : decode cX6_couldAll 22 = .ok (.iinc 2 1, 3) := by decide +kernel
theorem dX6_couldAll_25 : decode cX6_couldAll 25 = .ok (.goto (-23), 3) := by decide +kernel
theorem dX6_couldAll_28 : decode cX6_couldAll 28 = .ok (.iconst 0, 1) := by decide +kernel
theorem dX6_couldAll_29 : decode cX6_couldAll 29 = .ok (.ireturn, 1) := by decide +kernel
set_option maxRecDepth 20000 in
theorem ggX6_core_X6_findWorlds : GoodIn wsX6_core wsX6_findWorlds := goodIn_r _ [6, 7, 8, 9, 10, 5, 11, 12, 1, 13, 14, 15, 16, 17, 18, 19, 20, 21, 22, 23, 24, 25, 26, 27, 28, 29, 30, 31, 32, 33, 41, 42, 43, 44, 45, 46, 47, 48, 49, 50, 51, 52, 53, 54, 55, 56, 57, 58, 59, 60, 61] (by decide +kernel) (by decide +kernel)
set_option maxRecDepth 20000 in
theorem gX6_core_X6_findWorlds : GoodIn wsX6_core (wsV RX6 177 RX6 yX6_findWorlds wsX6_findWorlds) := goodIn_app (goodIn_of _ (by decide +kernel)) ggX6_core_X6_findWorlds
set_option maxRecDepth 20000 in
theorem ggX6_core_X6_standing : GoodIn wsX6_core wsX6_standing := goodIn_r _ [19, 12, 41, 42, 43, 44, 45, 46, 47, 48, 49, 50, 51, 52, 53, 54, 55, 56, 57, 58, 59, 60, 61] (by decide +kernel) (by decide +kernel)
set_option maxRecDepth 20000 in
theorem gX6_core_X6_standing : GoodIn wsX6_core (wsV RX6 174 RX6 yX6_standing wsX6_standing) := goodIn_app (goodIn_of _ (by decide +kernel)) ggX6_core_X6_standing
set_option maxRecDepth 20000 in
theorem ggX6_core_X6_bits : GoodIn wsX6_core wsX6_bits := goodIn_r _ [36] (by decide +kernel) (by decide +kernel)
set_option maxRecDepth 20000 in
theorem gX6_core_X6_bits : GoodIn wsX6_core (va_wsS RX6 171 yX6_bits wsX6_bits) := goodIn_app (goodIn_of _ (by decide +kernel)) ggX6_core_X6_bits
set_option maxRecDepth 20000 in
theorem ggX6_core_X6_couldAll : GoodIn wsX6_core wsX6_couldAll := goodIn_r _ [40, 7, 41, 42, 43, 44, 45, 46, 47, 48, 49, 50, 51, 52, 53, 54, 55, 56, 57, 58, 59, 60, 61] (by decide +kernel) (by decide +kernel)
set_option maxRecDepth 20000 in
theorem gX6_core_X6_couldAll : GoodIn wsX6_core (wsV RX6 180 RX6 yX6_couldAll wsX6_couldAll) := goodIn_app (goodIn_of _ (by decide +kernel)) ggX6_core_X6_couldAll
theorem dX6_core_0 : decode cX6_core 0 = .ok (.aload_n 0, 1) := by decide +kernel
theorem dX6_core_1 : decode cX6_core 1 = .ok (.invokevirtual 177, 3) := by decide +kernel
theorem dX6_core_4 : decode cX6_core 4 = .ok (.bipush (-4), 2) := by decide +kernel
theorem dX6_core_6 : decode cX6_core 6 = .ok (.istore_n 1, 1) := by decide +kernel
theorem dX6_core_7 : decode cX6_core 7 = .ok (.iconst 0, 1) := by decide +kernel
theorem dX6_core_8 : decode cX6_core 8 = .ok (.istore_n 2, 1) := by decide +kernel
theorem dX6_core_9 : decode cX6_core 9 = .ok (.iload_n 2, 1) := by decide +kernel
theorem dX6_core_10 : decode cX6_core 10 = .ok (.iconst 1, 1) := by decide +kernel
theorem dX6_core_11 : decode cX6_core 11 = .ok (.aload_n 0, 1) := by decide +kernel
theorem dX6_core_12 : decode cX6_core 12 = .ok (.getfield 7, 3) := by decide +kernel
theorem dX6_core_15 : decode cX6_core 15 = .ok (.iconst 2, 1) := by decide +kernel
theorem dX6_core_16 : decode cX6_core 16 = .ok (.iaload, 1) := by decide +kernel
theorem dX6_core_17 : decode cX6_core 17 = .ok (.ishl, 1) := by decide +kernel
theorem dX6_core_18 : decode cX6_core 18 = .ok (.if_icmp .ge 59, 3) := by decide +kernel
theorem dX6_core_21 : decode cX6_core 21 = .ok (.iload_n 2, 1) := by decide +kernel
theorem dX6_core_22 : decode cX6_core 22 = .ok (.aload_n 0, 1) := by decide +kernel
theorem dX6_core_23 : decode cX6_core 23 = .ok (.invokevirtual 174, 3) := by decide +kernel
theorem dX6_core_26 : decode cX6_core 26 = .ok (.iconst (-1), 1) := by decide +kernel
theorem dX6_core_27 : decode cX6_core 27 = .ok (.ixor, 1) := by decide +kernel
theorem dX6_core_28 : decode cX6_core 28 = .ok (.iand, 1) := by decide +kernel
theorem dX6_core_29 : decode cX6_core 29 = .ok (.ifCond .ne 22, 3) := by decide +kernel
theorem dX6_core_32 : decode cX6_core 32 = .ok (.iload_n 1, 1) := by decide +kernel
theorem dX6_core_33 : decode cX6_core 33 = .ok (.ifCond .lt 14, 3) := by decide +kernel
theorem dX6_core_36 : decode cX6_core 36 = .ok (.iload_n 2, 1) := by decide +kernel
theorem dX6_core_37 : decode cX6_core 37 = .ok (.invokestatic 171, 3) := by decide +kernel
theorem dX6_core_40 : decode cX6_core 40 = .ok (.iload_n 1, 1) := by decide +kernel
theorem dX6_core_41 : decode cX6_core 41 = .ok (.invokestatic 171, 3) := by decide +kernel
theorem dX6_core_44 : decode cX6_core 44 = .ok (.if_icmp .ge 7, 3) := by decide +kernel
theorem dX6_core_47 : decode cX6_core 47 = .ok (.iconst 1, 1) := by decide +kernel
theorem dX6_core_48 : decode cX6_core 48 = .ok (.goto 4, 3) := by decide +kernel
theorem dX6_core_51 : decode cX6_core 51 = .ok (.iconst 0, 1) := by decide +kernel
theorem dX6_core_52 : decode cX6_core 52 = .ok (.istore_n 3, 1) := by decide +kernel
theorem dX6_core_53 : decode cX6_core 53 = .ok (.iload_n 3, 1) := by decide +kernel
theorem dX6_core_54 : decode cX6_core 54 = .ok (.ifCond .eq 17, 3) := by decide +kernel
theorem dX6_core_57 : decode cX6_core 57 = .ok (.aload_n 0, 1) := by decide +kernel
theorem dX6_core_58 : decode cX6_core 58 = .ok (.iload_n 2, 1) := by decide +kernel
theorem dX6_core_59 : decode cX6_core 59 = .ok (.invokevirtual 180, 3) := by decide +kernel
theorem dX6_core_62 : decode cX6_core 62 = .ok (.ifCond .eq 7, 3) := by decide +kernel
theorem dX6_core_65 : decode cX6_core 65 = .ok (.iload_n 1, 1) := by decide +kernel
theorem dX6_core_66 : decode cX6_core 66 = .ok (.goto 4, 3) := by decide +kernel
theorem dX6_core_69 : decode cX6_core 69 = .ok (.iload_n 2, 1) := by decide +kernel
theorem dX6_core_70 : decode cX6_core 70 = .ok (.istore_n 1, 1) := by decide +kernel
theorem dX6_core_71 : decode cX6_core 71 = .ok (.iinc 2 1, 3) := by decide +kernel
theorem dX6_core_74 : decode cX6_core 74 = .ok (.goto (-65), 3) := by decide +kernel
theorem dX6_core_77 : decode cX6_core 77 = .ok (.iload_n 1, 1) := by decide +kernel
theorem dX6_core_78 : decode cX6_core 78 = .ok (.ireturn, 1) := by decide +kernel
set_option maxRecDepth 20000 in
theorem ggX6_cut_X6_findWorlds : GoodIn wsX6_cut wsX6_findWorlds := goodIn_r _ [6, 7, 8, 9, 10, 5, 11, 12, 1, 13, 14, 15, 16, 17, 18, 19, 20, 21, 22, 23, 24, 25, 26, 27, 28, 29, 30, 31, 32, 33, 41, 42, 43, 44, 45, 46, 47, 48, 49, 50, 51, 52, 53, 54, 55, 56, 57, 58, 59, 60, 61] (by decide +kernel) (by decide +kernel)
set_option maxRecDepth 20000 in
theorem gX6_cut_X6_findWorlds : GoodIn wsX6_cut (wsV RX6 177 RX6 yX6_findWorlds wsX6_findWorlds) := goodIn_app (goodIn_of _ (by decide +kernel)) ggX6_cut_X6_findWorlds
set_option maxRecDepth 20000 in
theorem ggX6_cut_X6_standing : GoodIn wsX6_cut wsX6_standing := goodIn_r _ [19, 12, 41, 42, 43, 44, 45, 46, 47, 48, 49, 50, 51, 52, 53, 54, 55, 56, 57, 58, 59, 60, 61] (by decide +kernel) (by decide +kernel)
set_option maxRecDepth 20000 in
theorem gX6_cut_X6_standing : GoodIn wsX6_cut (wsV RX6 174 RX6 yX6_standing wsX6_standing) := goodIn_app (goodIn_of _ (by decide +kernel)) ggX6_cut_X6_standing
set_option maxRecDepth 20000 in
theorem ggX6_cut_X6_bits : GoodIn wsX6_cut wsX6_bits := goodIn_r _ [36] (by decide +kernel) (by decide +kernel)
set_option maxRecDepth 20000 in
theorem gX6_cut_X6_bits : GoodIn wsX6_cut (va_wsS RX6 171 yX6_bits wsX6_bits) := goodIn_app (goodIn_of _ (by decide +kernel)) ggX6_cut_X6_bits
set_option maxRecDepth 20000 in
theorem ggX6_cut_X6_couldAll : GoodIn wsX6_cut wsX6_couldAll := goodIn_r _ [40, 7, 41, 42, 43, 44, 45, 46, 47, 48, 49, 50, 51, 52, 53, 54, 55, 56, 57, 58, 59, 60, 61] (by decide +kernel) (by decide +kernel)
set_option maxRecDepth 20000 in
theorem gX6_cut_X6_couldAll : GoodIn wsX6_cut (wsV RX6 180 RX6 yX6_couldAll wsX6_couldAll) := goodIn_app (goodIn_of _ (by decide +kernel)) ggX6_cut_X6_couldAll
theorem dX6_cut_0 : decode cX6_cut 0 = .ok (.aload_n 0, 1) := by decide +kernel
theorem dX6_cut_1 : decode cX6_cut 1 = .ok (.invokevirtual 177, 3) := by decide +kernel
theorem dX6_cut_4 : decode cX6_cut 4 = .ok (.bipush (-4), 2) := by decide +kernel
theorem dX6_cut_6 : decode cX6_cut 6 = .ok (.istore_n 1, 1) := by decide +kernel
theorem dX6_cut_7 : decode cX6_cut 7 = .ok (.iconst 0, 1) := by decide +kernel
theorem dX6_cut_8 : decode cX6_cut 8 = .ok (.istore_n 2, 1) := by decide +kernel
theorem dX6_cut_9 : decode cX6_cut 9 = .ok (.iload_n 2, 1) := by decide +kernel
theorem dX6_cut_10 : decode cX6_cut 10 = .ok (.iconst 1, 1) := by decide +kernel
theorem dX6_cut_11 : decode cX6_cut 11 = .ok (.aload_n 0, 1) := by decide +kernel
theorem dX6_cut_12 : decode cX6_cut 12 = .ok (.getfield 7, 3) := by decide +kernel
theorem dX6_cut_15 : decode cX6_cut 15 = .ok (.iconst 2, 1) := by decide +kernel
theorem dX6_cut_16 : decode cX6_cut 16 = .ok (.iaload, 1) := by decide +kernel
theorem dX6_cut_17 : decode cX6_cut 17 = .ok (.ishl, 1) := by decide +kernel
theorem dX6_cut_18 : decode cX6_cut 18 = .ok (.if_icmp .ge 66, 3) := by decide +kernel
theorem dX6_cut_21 : decode cX6_cut 21 = .ok (.iload_n 2, 1) := by decide +kernel
theorem dX6_cut_22 : decode cX6_cut 22 = .ok (.aload_n 0, 1) := by decide +kernel
theorem dX6_cut_23 : decode cX6_cut 23 = .ok (.invokevirtual 174, 3) := by decide +kernel
theorem dX6_cut_26 : decode cX6_cut 26 = .ok (.iconst (-1), 1) := by decide +kernel
theorem dX6_cut_27 : decode cX6_cut 27 = .ok (.ixor, 1) := by decide +kernel
theorem dX6_cut_28 : decode cX6_cut 28 = .ok (.iand, 1) := by decide +kernel
theorem dX6_cut_29 : decode cX6_cut 29 = .ok (.ifCond .ne 22, 3) := by decide +kernel
theorem dX6_cut_32 : decode cX6_cut 32 = .ok (.iload_n 1, 1) := by decide +kernel
theorem dX6_cut_33 : decode cX6_cut 33 = .ok (.ifCond .lt 14, 3) := by decide +kernel
theorem dX6_cut_36 : decode cX6_cut 36 = .ok (.iload_n 2, 1) := by decide +kernel
theorem dX6_cut_37 : decode cX6_cut 37 = .ok (.invokestatic 171, 3) := by decide +kernel
theorem dX6_cut_40 : decode cX6_cut 40 = .ok (.iload_n 1, 1) := by decide +kernel
theorem dX6_cut_41 : decode cX6_cut 41 = .ok (.invokestatic 171, 3) := by decide +kernel
theorem dX6_cut_44 : decode cX6_cut 44 = .ok (.if_icmp .ge 7, 3) := by decide +kernel
theorem dX6_cut_47 : decode cX6_cut 47 = .ok (.iconst 1, 1) := by decide +kernel
theorem dX6_cut_48 : decode cX6_cut 48 = .ok (.goto 4, 3) := by decide +kernel
theorem dX6_cut_51 : decode cX6_cut 51 = .ok (.iconst 0, 1) := by decide +kernel
theorem dX6_cut_52 : decode cX6_cut 52 = .ok (.istore_n 3, 1) := by decide +kernel
theorem dX6_cut_53 : decode cX6_cut 53 = .ok (.iload_n 3, 1) := by decide +kernel
theorem dX6_cut_54 : decode cX6_cut 54 = .ok (.ifCond .eq 24, 3) := by decide +kernel
theorem dX6_cut_57 : decode cX6_cut 57 = .ok (.aload_n 0, 1) := by decide +kernel
theorem dX6_cut_58 : decode cX6_cut 58 = .ok (.aload_n 0, 1) := by decide +kernel
theorem dX6_cut_59 : decode cX6_cut 59 = .ok (.invokevirtual 174, 3) := by decide +kernel
theorem dX6_cut_62 : decode cX6_cut 62 = .ok (.iload_n 2, 1) := by decide +kernel
theorem dX6_cut_63 : decode cX6_cut 63 = .ok (.iconst (-1), 1) := by decide +kernel
theorem dX6_cut_64 : decode cX6_cut 64 = .ok (.ixor, 1) := by decide +kernel
theorem dX6_cut_65 : decode cX6_cut 65 = .ok (.iand, 1) := by decide +kernel
theorem dX6_cut_66 : decode cX6_cut 66 = .ok (.invokevirtual 180, 3) := by decide +kernel
theorem dX6_cut_69 : decode cX6_cut 69 = .ok (.ifCond .eq 7, 3) := by decide +kernel
theorem dX6_cut_72 : decode cX6_cut 72 = .ok (.iload_n 2, 1) := by decide +kernel
theorem dX6_cut_73 : decode cX6_cut 73 = .ok (.goto 4, 3) := by decide +kernel
theorem dX6_cut_76 : decode cX6_cut 76 = .ok (.iload_n 1, 1) := by decide +kernel
theorem dX6_cut_77 : decode cX6_cut 77 = .ok (.istore_n 1, 1) := by decide +kernel
theorem dX6_cut_78 : decode cX6_cut 78 = .ok (.iinc 2 1, 3) := by decide +kernel
theorem dX6_cut_81 : decode cX6_cut 81 = .ok (.goto (-72), 3) := by decide +kernel
theorem dX6_cut_84 : decode cX6_cut 84 = .ok (.iload_n 1, 1) := by decide +kernel
theorem dX6_cut_85 : decode cX6_cut 85 = .ok (.ireturn, 1) := by decide +kernel
set_option maxRecDepth 20000 in
theorem ggX6_truest_X6_in : GoodIn wsX6_truest wsX6_in := goodIn_r _ [5] (by decide +kernel) (by decide +kernel)
set_option maxRecDepth 20000 in
theorem gX6_truest_X6_in : GoodIn wsX6_truest (va_wsS RX6 64 yX6_in wsX6_in) := goodIn_app (goodIn_of _ (by decide +kernel)) ggX6_truest_X6_in
set_option maxRecDepth 20000 in
theorem ggX6_truest_X6_findWorlds : GoodIn wsX6_truest wsX6_findWorlds := goodIn_r _ [9, 1, 10, 11, 12, 4, 13, 14, 15, 16, 17, 18, 19, 20, 21, 22, 23, 24, 25, 26, 27, 28, 29, 30, 31, 32, 33, 34, 35, 36, 40, 41, 42, 43, 44, 45, 46, 47, 48, 49, 50, 51, 52, 53, 54, 55, 56, 57, 58, 59, 60] (by decide +kernel) (by decide +kernel)
set_option maxRecDepth 20000 in
theorem gX6_truest_X6_findWorlds : GoodIn wsX6_truest (wsV RX6 177 RX6 yX6_findWorlds wsX6_findWorlds) := goodIn_app (goodIn_of _ (by decide +kernel)) ggX6_truest_X6_findWorlds
set_option maxRecDepth 20000 in
theorem ggX6_truest_X6_bits : GoodIn wsX6_truest wsX6_bits := goodIn_r _ [39] (by decide +kernel) (by decide +kernel)
set_option maxRecDepth 20000 in
theorem gX6_truest_X6_bits : GoodIn wsX6_truest (va_wsS RX6 171 yX6_bits wsX6_bits) := goodIn_app (goodIn_of _ (by decide +kernel)) ggX6_truest_X6_bits
theorem dX6_truest_0 : decode cX6_truest 0 = .ok (.iload_n 1, 1) := by decide +kernel
theorem dX6_truest_1 : decode cX6_truest 1 = .ok (.iconst 0, 1) := by decide +kernel
theorem dX6_truest_2 : decode cX6_truest 2 = .ok (.iconst 1, 1) := by decide +kernel
theorem dX6_truest_3 : decode cX6_truest 3 = .ok (.invokestatic 64, 3) := by decide +kernel
theorem dX6_truest_6 : decode cX6_truest 6 = .ok (.ifCond .ne 5, 3) := by decide +kernel
theorem dX6_truest_9 : decode cX6_truest 9 = .ok (.iconst (-1), 1) := by decide +kernel
theorem dX6_truest_10 : decode cX6_truest 10 = .ok (.ireturn, 1) := by decide +kernel
theorem dX6_truest_11 : decode cX6_truest 11 = .ok (.aload_n 0, 1) := by decide +kernel
theorem dX6_truest_12 : decode cX6_truest 12 = .ok (.invokevirtual 177, 3) := by decide +kernel
theorem dX6_truest_15 : decode cX6_truest 15 = .ok (.iconst 0, 1) := by decide +kernel
theorem dX6_truest_16 : decode cX6_truest 16 = .ok (.istore_n 2, 1) := by decide +kernel
theorem dX6_truest_17 : decode cX6_truest 17 = .ok (.iconst 1, 1) := by decide +kernel
theorem dX6_truest_18 : decode cX6_truest 18 = .ok (.istore_n 3, 1) := by decide +kernel
theorem dX6_truest_19 : decode cX6_truest 19 = .ok (.iload_n 3, 1) := by decide +kernel
theorem dX6_truest_20 : decode cX6_truest 20 = .ok (.bipush 64, 2) := by decide +kernel
theorem dX6_truest_22 : decode cX6_truest 22 = .ok (.if_icmp .ge 36, 3) := by decide +kernel
theorem dX6_truest_25 : decode cX6_truest 25 = .ok (.aload_n 0, 1) := by decide +kernel
theorem dX6_truest_26 : decode cX6_truest 26 = .ok (.getfield 34, 3) := by decide +kernel
theorem dX6_truest_29 : decode cX6_truest 29 = .ok (.iload_n 3, 1) := by decide +kernel
theorem dX6_truest_30 : decode cX6_truest 30 = .ok (.iaload, 1) := by decide +kernel
theorem dX6_truest_31 : decode cX6_truest 31 = .ok (.invokestatic 171, 3) := by decide +kernel
theorem dX6_truest_34 : decode cX6_truest 34 = .ok (.aload_n 0, 1) := by decide +kernel
theorem dX6_truest_35 : decode cX6_truest 35 = .ok (.getfield 34, 3) := by decide +kernel
theorem dX6_truest_38 : decode cX6_truest 38 = .ok (.iload_n 2, 1) := by decide +kernel
theorem dX6_truest_39 : decode cX6_truest 39 = .ok (.iaload, 1) := by decide +kernel
theorem dX6_truest_40 : decode cX6_truest 40 = .ok (.invokestatic 171, 3) := by decide +kernel
theorem dX6_truest_43 : decode cX6_truest 43 = .ok (.if_icmp .le 7, 3) := by decide +kernel
theorem dX6_truest_46 : decode cX6_truest 46 = .ok (.iload_n 3, 1) := by decide +kernel
theorem dX6_truest_47 : decode cX6_truest 47 = .ok (.goto 4, 3) := by decide +kernel
theorem dX6_truest_50 : decode cX6_truest 50 = .ok (.iload_n 2, 1) := by decide +kernel
theorem dX6_truest_51 : decode cX6_truest 51 = .ok (.istore_n 2, 1) := by decide +kernel
theorem dX6_truest_52 : decode cX6_truest 52 = .ok (.iinc 3 1, 3) := by decide +kernel
theorem dX6_truest_55 : decode cX6_truest 55 = .ok (.goto (-36), 3) := by decide +kernel
theorem dX6_truest_58 : decode cX6_truest 58 = .ok (.iload_n 1, 1) := by decide +kernel
theorem dX6_truest_59 : decode cX6_truest 59 = .ok (.ifCond .ne 15, 3) := by decide +kernel
theorem dX6_truest_62 : decode cX6_truest 62 = .ok (.aload_n 0, 1) := by decide +kernel
theorem dX6_truest_63 : decode cX6_truest 63 = .ok (.getfield 34, 3) := by decide +kernel
theorem dX6_truest_66 : decode cX6_truest 66 = .ok (.iload_n 2, 1) := by decide +kernel
theorem dX6_truest_67 : decode cX6_truest 67 = .ok (.iaload, 1) := by decide +kernel
theorem dX6_truest_68 : decode cX6_truest 68 = .ok (.invokestatic 171, 3) := by decide +kernel
theorem dX6_truest_71 : decode cX6_truest 71 = .ok (.goto 4, 3) := by decide +kernel
theorem dX6_truest_74 : decode cX6_truest 74 = .ok (.iload_n 2, 1) := by decide +kernel
theorem dX6_truest_75 : decode cX6_truest 75 = .ok (.ireturn, 1) := by decide +kernel
set_option maxRecDepth 20000 in
theorem ggX6_married_X6_asItIs : GoodIn wsX6_married wsX6_asItIs := goodIn_r _ [6, 7, 8, 9, 10, 5, 11, 34, 35, 36, 37, 38, 39, 40, 41, 42, 43, 44, 45, 46, 47, 48, 49, 50, 51, 52, 53, 54] (by decide +kernel) (by decide +kernel)
set_option maxRecDepth 20000 in
theorem gX6_married_X6_asItIs : GoodIn wsX6_married (wsV RX6 149 RX6 yX6_asItIs wsX6_asItIs) := goodIn_app (goodIn_of _ (by decide +kernel)) ggX6_married_X6_asItIs
set_option maxRecDepth 20000 in
theorem ggX6_married_X6_police : GoodIn wsX6_married wsX6_police := goodIn_r _ [15, 7, 34, 35, 36, 37, 38, 39, 40, 41, 42, 43, 44, 45, 46, 47, 48, 49, 50, 51, 52, 53, 54] (by decide +kernel) (by decide +kernel)
set_option maxRecDepth 20000 in
theorem gX6_married_X6_police : GoodIn wsX6_married (wsV RX6 168 RX6 yX6_police wsX6_police) := goodIn_app (goodIn_of _ (by decide +kernel)) ggX6_married_X6_police
set_option maxRecDepth 20000 in
theorem ggX6_married_X6_has : GoodIn wsX6_married wsX6_has := goodIn_r _ [18] (by decide +kernel) (by decide +kernel)
set_option maxRecDepth 20000 in
theorem gX6_married_X6_has : GoodIn wsX6_married (va_wsS RX6 124 yX6_has wsX6_has) := goodIn_app (goodIn_of _ (by decide +kernel)) ggX6_married_X6_has
set_option maxRecDepth 20000 in
theorem ggX6_married_X6_pairsFrom : GoodIn wsX6_married wsX6_pairsFrom := goodIn_r _ [22, 1, 8, 16, 17, 5, 18, 23, 24, 25, 26, 27, 28, 29, 30, 7, 31, 32, 33, 34, 35, 36, 37, 38, 39, 40, 41, 42, 43, 44, 45, 46, 47, 48, 49, 50, 51, 52, 53, 54] (by decide +kernel) (by decide +kernel)
set_option maxRecDepth 20000 in
theorem gX6_married_X6_pairsFrom : GoodIn wsX6_married (wsV RX6 183 RX6 yX6_pairsFrom wsX6_pairsFrom) := goodIn_app (goodIn_of _ (by decide +kernel)) ggX6_married_X6_pairsFrom
theorem dX6_married_0 : decode cX6_married 0 = .ok (.aload_n 0, 1) := by decide +kernel
theorem dX6_married_1 : decode cX6_married 1 = .ok (.invokevirtual 149, 3) := by decide +kernel
theorem dX6_married_4 : decode cX6_married 4 = .ok (.aload_n 0, 1) := by decide +kernel
theorem dX6_married_5 : decode cX6_married 5 = .ok (.invokevirtual 168, 3) := by decide +kernel
theorem dX6_married_8 : decode cX6_married 8 = .ok (.istore_n 1, 1) := by decide +kernel
theorem dX6_married_9 : decode cX6_married 9 = .ok (.sipush 511, 3) := by decide +kernel
theorem dX6_married_12 : decode cX6_married 12 = .ok (.istore_n 2, 1) := by decide +kernel
theorem dX6_married_13 : decode cX6_married 13 = .ok (.iload_n 2, 1) := by decide +kernel
theorem dX6_married_14 : decode cX6_married 14 = .ok (.ifCond .lt 73, 3) := by decide +kernel
theorem dX6_married_17 : decode cX6_married 17 = .ok (.aload_n 0, 1) := by decide +kernel
theorem dX6_married_18 : decode cX6_married 18 = .ok (.getfield 37, 3) := by decide +kernel
theorem dX6_married_21 : decode cX6_married 21 = .ok (.iload_n 2, 1) := by decide +kernel
theorem dX6_married_22 : decode cX6_married 22 = .ok (.iconst 0, 1) := by decide +kernel
theorem dX6_married_23 : decode cX6_married 23 = .ok (.iastore, 1) := by decide +kernel
theorem dX6_married_24 : decode cX6_married 24 = .ok (.iload_n 2, 1) := by decide +kernel
theorem dX6_married_25 : decode cX6_married 25 = .ok (.iload_n 1, 1) := by decide +kernel
theorem dX6_married_26 : decode cX6_married 26 = .ok (.iconst (-1), 1) := by decide +kernel
theorem dX6_married_27 : decode cX6_married 27 = .ok (.ixor, 1) := by decide +kernel
theorem dX6_married_28 : decode cX6_married 28 = .ok (.iand, 1) := by decide +kernel
theorem dX6_married_29 : decode cX6_married 29 = .ok (.ifCond .ne 52, 3) := by decide +kernel
theorem dX6_married_32 : decode cX6_married 32 = .ok (.iconst 0, 1) := by decide +kernel
theorem dX6_married_33 : decode cX6_married 33 = .ok (.istore_n 3, 1) := by decide +kernel
theorem dX6_married_34 : decode cX6_married 34 = .ok (.iload_n 3, 1) := by decide +kernel
theorem dX6_married_35 : decode cX6_married 35 = .ok (.bipush 9, 2) := by decide +kernel
theorem dX6_married_37 : decode cX6_married 37 = .ok (.if_icmp .ge 21, 3) := by decide +kernel
theorem dX6_married_40 : decode cX6_married 40 = .ok (.iload_n 1, 1) := by decide +kernel
theorem dX6_married_41 : decode cX6_married 41 = .ok (.iload_n 2, 1) := by decide +kernel
theorem dX6_married_42 : decode cX6_married 42 = .ok (.iconst (-1), 1) := by decide +kernel
theorem dX6_married_43 : decode cX6_married 43 = .ok (.ixor, 1) := by decide +kernel
theorem dX6_married_44 : decode cX6_married 44 = .ok (.iand, 1) := by decide +kernel
theorem dX6_married_45 : decode cX6_married 45 = .ok (.iload_n 3, 1) := by decide +kernel
theorem dX6_married_46 : decode cX6_married 46 = .ok (.invokestatic 124, 3) := by decide +kernel
theorem dX6_married_49 : decode cX6_married 49 = .ok (.ifCond .ne 9, 3) := by decide +kernel
theorem dX6_married_52 : decode cX6_married 52 = .ok (.iinc 3 1, 3) := by decide +kernel
theorem dX6_married_55 : decode cX6_married 55 = .ok (.goto (-21), 3) := by decide +kernel
theorem dX6_married_58 : decode cX6_married 58 = .ok (.aload_n 0, 1) := by decide +kernel
theorem dX6_married_59 : decode cX6_married 59 = .ok (.getfield 37, 3) := by decide +kernel
theorem dX6_married_62 : decode cX6_married 62 = .ok (.iload_n 2, 1) := by decide +kernel
theorem dX6_married_63 : decode cX6_married 63 = .ok (.iload_n 3, 1) := by decide +kernel
theorem dX6_married_64 : decode cX6_married 64 = .ok (.bipush 9, 2) := by decide +kernel
theorem dX6_married_66 : decode cX6_married 66 = .ok (.if_icmp .ne 7, 3) := by decide +kernel
theorem dX6_married_69 : decode cX6_married 69 = .ok (.iconst 0, 1) := by decide +kernel
theorem dX6_married_70 : decode cX6_married 70 = .ok (.goto 10, 3) := by decide +kernel
theorem dX6_married_73 : decode cX6_married 73 = .ok (.aload_n 0, 1) := by decide +kernel
theorem dX6_married_74 : decode cX6_married 74 = .ok (.iload_n 1, 1) := by decide +kernel
theorem dX6_married_75 : decode cX6_married 75 = .ok (.iload_n 2, 1) := by decide +kernel
theorem dX6_married_76 : decode cX6_married 76 = .ok (.iload_n 3, 1) := by decide +kernel
theorem dX6_married_77 : decode cX6_married 77 = .ok (.invokevirtual 183, 3) := by decide +kernel
theorem dX6_married_80 : decode cX6_married 80 = .ok (.iastore, 1) := by decide +kernel
theorem dX6_married_81 : decode cX6_married 81 = .ok (.iinc 2 (-1), 3) := by decide +kernel
theorem dX6_married_84 : decode cX6_married 84 = .ok (.goto (-71), 3) := by decide +kernel
theorem dX6_married_87 : decode cX6_married 87 = .ok (.aload_n 0, 1) := by decide +kernel
theorem dX6_married_88 : decode cX6_married 88 = .ok (.getfield 37, 3) := by decide +kernel
theorem dX6_married_91 : decode cX6_married 91 = .ok (.iconst 0, 1) := by decide +kernel
theorem dX6_married_92 : decode cX6_married 92 = .ok (.iaload, 1) := by decide +kernel
theorem dX6_married_93 : decode cX6_married 93 = .ok (.ireturn, 1) := by decide +kernel
set_option maxRecDepth 20000 in
theorem ggX6_pairsFrom_X6_has : GoodIn wsX6_pairsFrom wsX6_has := goodIn_r _ [6] (by decide +kernel) (by decide +kernel)
set_option maxRecDepth 20000 in
theorem gX6_pairsFrom_X6_has : GoodIn wsX6_pairsFrom (va_wsS RX6 124 yX6_has wsX6_has) := goodIn_app (goodIn_of _ (by decide +kernel)) ggX6_pairsFrom_X6_has
set_option maxRecDepth 20000 in
theorem ggX6_pairsFrom_X6_doClash : GoodIn wsX6_pairsFrom wsX6_doClash := goodIn_r _ [10, 11, 12, 13, 5, 14, 15, 16, 17, 18, 3, 4, 6, 19, 20, 21, 22, 23, 24, 25, 26, 27, 28, 29, 30, 31, 32, 33, 34, 35, 36, 37, 38, 39] (by decide +kernel) (by decide +kernel)
set_option maxRecDepth 20000 in
theorem gX6_pairsFrom_X6_doClash : GoodIn wsX6_pairsFrom (wsV RX6 140 RX6 yX6_doClash wsX6_doClash) := goodIn_app (goodIn_of _ (by decide +kernel)) ggX6_pairsFrom_X6_doClash
theorem dX6_pairsFrom_0 : decode cX6_pairsFrom 0 = .ok (.aload_n 0, 1) := by decide +kernel
theorem dX6_pairsFrom_1 : decode cX6_pairsFrom 1 = .ok (.getfield 37, 3) := by decide +kernel
theorem dX6_pairsFrom_4 : decode cX6_pairsFrom 4 = .ok (.iload_n 2, 1) := by decide +kernel
theorem dX6_pairsFrom_5 : decode cX6_pairsFrom 5 = .ok (.iconst 1, 1) := by decide +kernel
theorem dX6_pairsFrom_6 : decode cX6_pairsFrom 6 = .ok (.iload_n 3, 1) := by decide +kernel
theorem dX6_pairsFrom_7 : decode cX6_pairsFrom 7 = .ok (.ishl, 1) := by decide +kernel
theorem dX6_pairsFrom_8 : decode cX6_pairsFrom 8 = .ok (.ior, 1) := by decide +kernel
theorem dX6_pairsFrom_9 : decode cX6_pairsFrom 9 = .ok (.iaload, 1) := by decide +kernel
theorem dX6_pairsFrom_10 : decode cX6_pairsFrom 10 = .ok (.istore 4, 2) := by decide +kernel
theorem dX6_pairsFrom_12 : decode cX6_pairsFrom 12 = .ok (.iload_n 3, 1) := by decide +kernel
theorem dX6_pairsFrom_13 : decode cX6_pairsFrom 13 = .ok (.iconst 1, 1) := by decide +kernel
theorem dX6_pairsFrom_14 : decode cX6_pairsFrom 14 = .ok (.iadd, 1) := by decide +kernel
theorem dX6_pairsFrom_15 : decode cX6_pairsFrom 15 = .ok (.istore 5, 2) := by decide +kernel
theorem dX6_pairsFrom_17 : decode cX6_pairsFrom 17 = .ok (.iload 5, 2) := by decide +kernel
theorem dX6_pairsFrom_19 : decode cX6_pairsFrom 19 = .ok (.aload_n 0, 1) := by decide +kernel
theorem dX6_pairsFrom_20 : decode cX6_pairsFrom 20 = .ok (.getfield 7, 3) := by decide +kernel
theorem dX6_pairsFrom_23 : decode cX6_pairsFrom 23 = .ok (.iconst 2, 1) := by decide +kernel
theorem dX6_pairsFrom_24 : decode cX6_pairsFrom 24 = .ok (.iaload, 1) := by decide +kernel
theorem dX6_pairsFrom_25 : decode cX6_pairsFrom 25 = .ok (.if_icmp .ge 111, 3) := by decide +kernel
theorem dX6_pairsFrom_28 : decode cX6_pairsFrom 28 = .ok (.iload_n 1, 1) := by decide +kernel
theorem dX6_pairsFrom_29 : decode cX6_pairsFrom 29 = .ok (.iload_n 2, 1) := by decide +kernel
theorem dX6_pairsFrom_30 : decode cX6_pairsFrom 30 = .ok (.iconst (-1), 1) := by decide +kernel
theorem dX6_pairsFrom_31 : decode cX6_pairsFrom 31 = .ok (.ixor, 1) := by decide +kernel
theorem dX6_pairsFrom_32 : decode cX6_pairsFrom 32 = .ok (.iand, 1) := by decide +kernel
theorem dX6_pairsFrom_33 : decode cX6_pairsFrom 33 = .ok (.iload 5, 2) := by decide +kernel
theorem dX6_pairsFrom_35 : decode cX6_pairsFrom 35 = .ok (.invokestatic 124, 3) := by decide +kernel
theorem dX6_pairsFrom_38 : decode cX6_pairsFrom 38 = .ok (.ifCond .eq 45, 3) := by decide +kernel
theorem dX6_pairsFrom_41 : decode cX6_pairsFrom 41 = .ok (.aload_n 0, 1) := by decide +kernel
theorem dX6_pairsFrom_42 : decode cX6_pairsFrom 42 = .ok (.getfield 7, 3) := by decide +kernel
theorem dX6_pairsFrom_45 : decode cX6_pairsFrom 45 = .ok (.iconst 4, 1) := by decide +kernel
theorem dX6_pairsFrom_46 : decode cX6_pairsFrom 46 = .ok (.iconst 4, 1) := by decide +kernel
theorem dX6_pairsFrom_47 : decode cX6_pairsFrom 47 = .ok (.iload_n 3, 1) := by decide +kernel
theorem dX6_pairsFrom_48 : decode cX6_pairsFrom 48 = .ok (.imul, 1) := by decide +kernel
theorem dX6_pairsFrom_49 : decode cX6_pairsFrom 49 = .ok (.iadd, 1) := by decide +kernel
theorem dX6_pairsFrom_50 : decode cX6_pairsFrom 50 = .ok (.iconst 3, 1) := by decide +kernel
theorem dX6_pairsFrom_51 : decode cX6_pairsFrom 51 = .ok (.iadd, 1) := by decide +kernel
theorem dX6_pairsFrom_52 : decode cX6_pairsFrom 52 = .ok (.iaload, 1) := by decide +kernel
theorem dX6_pairsFrom_53 : decode cX6_pairsFrom 53 = .ok (.aload_n 0, 1) := by decide +kernel
theorem dX6_pairsFrom_54 : decode cX6_pairsFrom 54 = .ok (.getfield 7, 3) := by decide +kernel
theorem dX6_pairsFrom_57 : decode cX6_pairsFrom 57 = .ok (.iconst 4, 1) := by decide +kernel
theorem dX6_pairsFrom_58 : decode cX6_pairsFrom 58 = .ok (.iconst 4, 1) := by decide +kernel
theorem dX6_pairsFrom_59 : decode cX6_pairsFrom 59 = .ok (.iload 5, 2) := by decide +kernel
theorem dX6_pairsFrom_61 : decode cX6_pairsFrom 61 = .ok (.imul, 1) := by decide +kernel
theorem dX6_pairsFrom_62 : decode cX6_pairsFrom 62 = .ok (.iadd, 1) := by decide +kernel
theorem dX6_pairsFrom_63 : decode cX6_pairsFrom 63 = .ok (.iconst 3, 1) := by decide +kernel
theorem dX6_pairsFrom_64 : decode cX6_pairsFrom 64 = .ok (.iadd, 1) := by decide +kernel
theorem dX6_pairsFrom_65 : decode cX6_pairsFrom 65 = .ok (.iaload, 1) := by decide +kernel
theorem dX6_pairsFrom_66 : decode cX6_pairsFrom 66 = .ok (.if_icmp .eq 17, 3) := by decide +kernel
theorem dX6_pairsFrom_69 : decode cX6_pairsFrom 69 = .ok (.aload_n 0, 1) := by decide +kernel
theorem dX6_pairsFrom_70 : decode cX6_pairsFrom 70 = .ok (.iload_n 3, 1) := by decide +kernel
theorem dX6_pairsFrom_71 : decode cX6_pairsFrom 71 = .ok (.iload 5, 2) := by decide +kernel
theorem dX6_pairsFrom_73 : decode cX6_pairsFrom 73 = .ok (.invokevirtual 140, 3) := by decide +kernel
theorem dX6_pairsFrom_76 : decode cX6_pairsFrom 76 = .ok (.ifCond .ne 7, 3) := by decide +kernel
theorem dX6_pairsFrom_79 : decode cX6_pairsFrom 79 = .ok (.iconst 1, 1) := by decide +kernel
theorem dX6_pairsFrom_80 : decode cX6_pairsFrom 80 = .ok (.goto 4, 3) := by decide +kernel
theorem dX6_pairsFrom_83 : decode cX6_pairsFrom 83 = .ok (.iconst 0, 1) := by decide +kernel
theorem dX6_pairsFrom_84 : decode cX6_pairsFrom 84 = .ok (.istore 6, 2) := by decide +kernel
theorem dX6_pairsFrom_86 : decode cX6_pairsFrom 86 = .ok (.iload 6, 2) := by decide +kernel
theorem dX6_pairsFrom_88 : decode cX6_pairsFrom 88 = .ok (.ifCond .eq 23, 3) := by decide +kernel
theorem dX6_pairsFrom_91 : decode cX6_pairsFrom 91 = .ok (.iconst 1, 1) := by decide +kernel
theorem dX6_pairsFrom_92 : decode cX6_pairsFrom 92 = .ok (.aload_n 0, 1) := by decide +kernel
theorem dX6_pairsFrom_93 : decode cX6_pairsFrom 93 = .ok (.getfield 37, 3) := by decide +kernel
theorem dX6_pairsFrom_96 : decode cX6_pairsFrom 96 = .ok (.iload_n 2, 1) := by decide +kernel
theorem dX6_pairsFrom_97 : decode cX6_pairsFrom 97 = .ok (.iconst 1, 1) := by decide +kernel
theorem dX6_pairsFrom_98 : decode cX6_pairsFrom 98 = .ok (.iload_n 3, 1) := by decide +kernel
theorem dX6_pairsFrom_99 : decode cX6_pairsFrom 99 = .ok (.ishl, 1) := by decide +kernel
theorem dX6_pairsFrom_100 : decode cX6_pairsFrom 100 = .ok (.ior, 1) := by decide +kernel
theorem dX6_pairsFrom_101 : decode cX6_pairsFrom 101 = .ok (.iconst 1, 1) := by decide +kernel
theorem dX6_pairsFrom_102 : decode cX6_pairsFrom 102 = .ok (.iload 5, 2) := by decide +kernel
theorem dX6_pairsFrom_104 : decode cX6_pairsFrom 104 = .ok (.ishl, 1) := by decide +kernel
theorem dX6_pairsFrom_105 : decode cX6_pairsFrom 105 = .ok (.ior, 1) := by decide +kernel
theorem dX6_pairsFrom_106 : decode cX6_pairsFrom 106 = .ok (.iaload, 1) := by decide +kernel
theorem dX6_pairsFrom_107 : decode cX6_pairsFrom 107 = .ok (.iadd, 1) := by decide +kernel
theorem dX6_pairsFrom_108 : decode cX6_pairsFrom 108 = .ok (.goto 4, 3) := by decide +kernel
theorem dX6_pairsFrom_111 : decode cX6_pairsFrom 111 = .ok (.iconst 0, 1) := by decide +kernel
theorem dX6_pairsFrom_112 : decode cX6_pairsFrom 112 = .ok (.istore 7, 2) := by decide +kernel
theorem dX6_pairsFrom_114 : decode cX6_pairsFrom 114 = .ok (.iload 7, 2) := by decide +kernel
theorem dX6_pairsFrom_116 : decode cX6_pairsFrom 116 = .ok (.iload 4, 2) := by decide +kernel
theorem dX6_pairsFrom_118 : decode cX6_pairsFrom 118 = .ok (.if_icmp .le 8, 3) := by decide +kernel
theorem dX6_pairsFrom_121 : decode cX6_pairsFrom 121 = .ok (.iload 7, 2) := by decide +kernel
theorem dX6_pairsFrom_123 : decode cX6_pairsFrom 123 = .ok (.goto 5, 3) := by decide +kernel
theorem dX6_pairsFrom_126 : decode cX6_pairsFrom 126 = .ok (.iload 4, 2) := by decide +kernel
theorem dX6_pairsFrom_128 : decode cX6_pairsFrom 128 = .ok (.istore 4, 2) := by decide +kernel
theorem dX6_pairsFrom_130 : decode cX6_pairsFrom 130 = .ok (.iinc 5 1, 3) := by decide +kernel
theorem dX6_pairsFrom_133 : decode cX6_pairsFrom 133 = .ok (.goto (-116), 3) := by decide +kernel
theorem dX6_pairsFrom_136 : decode cX6_pairsFrom 136 = .ok (.iload 4, 2) := by decide +kernel
theorem dX6_pairsFrom_138 : decode cX6_pairsFrom 138 = .ok (.ireturn, 1) := by decide +kernel
set_option maxRecDepth 20000 in
theorem ggX6_trial_X6_in : GoodIn wsX6_trial wsX6_in := goodIn_r _ [7] (by decide +kernel) (by decide +kernel)
set_option maxRecDepth 20000 in
theorem gX6_trial_X6_in : GoodIn wsX6_trial (va_wsS RX6 64 yX6_in wsX6_in) := goodIn_app (goodIn_of _ (by decide +kernel)) ggX6_trial_X6_in
set_option maxRecDepth 20000 in
theorem ggX6_trial_X6_asItIs : GoodIn wsX6_trial wsX6_asItIs := goodIn_r _ [11, 12, 3, 13, 14, 6, 15, 33, 34, 35, 36, 37, 38, 39, 40, 41, 42, 43, 44, 45, 46, 47, 48, 49, 50, 51, 52, 53] (by decide +kernel) (by decide +kernel)
set_option maxRecDepth 20000 in
theorem gX6_trial_X6_asItIs : GoodIn wsX6_trial (wsV RX6 149 RX6 yX6_asItIs wsX6_asItIs) := goodIn_app (goodIn_of _ (by decide +kernel)) ggX6_trial_X6_asItIs
set_option maxRecDepth 20000 in
theorem ggX6_trial_X6_policeIn : GoodIn wsX6_trial wsX6_policeIn := goodIn_r _ [19, 12, 20, 21, 6, 22, 23, 24, 25, 26, 27, 28, 29, 33, 34, 35, 36, 37, 38, 39, 40, 41, 42, 43, 44, 45, 46, 47, 48, 49, 50, 51, 52, 53] (by decide +kernel) (by decide +kernel)
set_option maxRecDepth 20000 in
theorem gX6_trial_X6_policeIn : GoodIn wsX6_trial (wsV RX6 134 RX6 yX6_policeIn wsX6_policeIn) := goodIn_app (goodIn_of _ (by decide +kernel)) ggX6_trial_X6_policeIn
set_option maxRecDepth 20000 in
theorem ggX6_trial_X6_bits : GoodIn wsX6_trial wsX6_bits := goodIn_r _ [32] (by decide +kernel) (by decide +kernel)
set_option maxRecDepth 20000 in
theorem gX6_trial_X6_bits : GoodIn wsX6_trial (va_wsS RX6 171 yX6_bits wsX6_bits) := goodIn_app (goodIn_of _ (by decide +kernel)) ggX6_trial_X6_bits
theorem dX6_trial_0 : decode cX6_trial 0 = .ok (.iload_n 1, 1) := by decide +kernel
theorem dX6_trial_1 : decode cX6_trial 1 = .ok (.iconst 1, 1) := by decide +kernel
theorem dX6_trial_2 : decode cX6_trial 2 = .ok (.iconst 4, 1) := by decide +kernel
theorem dX6_trial_3 : decode cX6_trial 3 = .ok (.invokestatic 64, 3) := by decide +kernel
theorem dX6_trial_6 : decode cX6_trial 6 = .ok (.ifCond .eq 12, 3) := by decide +kernel
theorem dX6_trial_9 : decode cX6_trial 9 = .ok (.iload_n 2, 1) := by decide +kernel
theorem dX6_trial_10 : decode cX6_trial 10 = .ok (.iconst 0, 1) := by decide +kernel
theorem dX6_trial_11 : decode cX6_trial 11 = .ok (.iconst 1, 1) := by decide +kernel
theorem dX6_trial_12 : decode cX6_trial 12 = .ok (.invokestatic 64, 3) := by decide +kernel
theorem dX6_trial_15 : decode cX6_trial 15 = .ok (.ifCond .ne 5, 3) := by decide +kernel
theorem dX6_trial_18 : decode cX6_trial 18 = .ok (.iconst (-1), 1) := by decide +kernel
theorem dX6_trial_19 : decode cX6_trial 19 = .ok (.ireturn, 1) := by decide +kernel
theorem dX6_trial_20 : decode cX6_trial 20 = .ok (.aload_n 0, 1) := by decide +kernel
theorem dX6_trial_21 : decode cX6_trial 21 = .ok (.invokevirtual 149, 3) := by decide +kernel
theorem dX6_trial_24 : decode cX6_trial 24 = .ok (.iconst 0, 1) := by decide +kernel
theorem dX6_trial_25 : decode cX6_trial 25 = .ok (.istore_n 3, 1) := by decide +kernel
theorem dX6_trial_26 : decode cX6_trial 26 = .ok (.iload_n 3, 1) := by decide +kernel
theorem dX6_trial_27 : decode cX6_trial 27 = .ok (.bipush 64, 2) := by decide +kernel
theorem dX6_trial_29 : decode cX6_trial 29 = .ok (.if_icmp .ge 23, 3) := by decide +kernel
theorem dX6_trial_32 : decode cX6_trial 32 = .ok (.aload_n 0, 1) := by decide +kernel
theorem dX6_trial_33 : decode cX6_trial 33 = .ok (.getfield 40, 3) := by decide +kernel
theorem dX6_trial_36 : decode cX6_trial 36 = .ok (.iload_n 3, 1) := by decide +kernel
theorem dX6_trial_37 : decode cX6_trial 37 = .ok (.aload_n 0, 1) := by decide +kernel
theorem dX6_trial_38 : decode cX6_trial 38 = .ok (.iload_n 3, 1) := by decide +kernel
theorem dX6_trial_39 : decode cX6_trial 39 = .ok (.invokevirtual 134, 3) := by decide +kernel
theorem dX6_trial_42 : decode cX6_trial 42 = .ok (.invokestatic 171, 3) := by decide +kernel
theorem dX6_trial_45 : decode cX6_trial 45 = .ok (.iastore, 1) := by decide +kernel
theorem dX6_trial_46 : decode cX6_trial 46 = .ok (.iinc 3 1, 3) := by decide +kernel
theorem dX6_trial_49 : decode cX6_trial 49 = .ok (.goto (-23), 3) := by decide +kernel
theorem dX6_trial_52 : decode cX6_trial 52 = .ok (.iload_n 1, 1) := by decide +kernel
theorem dX6_trial_53 : decode cX6_trial 53 = .ok (.iconst 1, 1) := by decide +kernel
theorem dX6_trial_54 : decode cX6_trial 54 = .ok (.isub, 1) := by decide +kernel
theorem dX6_trial_55 : decode cX6_trial 55 = .ok (.istore_n 3, 1) := by decide +kernel
theorem dX6_trial_56 : decode cX6_trial 56 = .ok (.iload_n 3, 1) := by decide +kernel
theorem dX6_trial_57 : decode cX6_trial 57 = .ok (.ifCond .le 168, 3) := by decide +kernel
theorem dX6_trial_60 : decode cX6_trial 60 = .ok (.iconst 0, 1) := by decide +kernel
theorem dX6_trial_61 : decode cX6_trial 61 = .ok (.istore 4, 2) := by decide +kernel
theorem dX6_trial_63 : decode cX6_trial 63 = .ok (.iload 4, 2) := by decide +kernel
theorem dX6_trial_65 : decode cX6_trial 65 = .ok (.bipush 64, 2) := by decide +kernel
theorem dX6_trial_67 : decode cX6_trial 67 = .ok (.if_icmp .ge 122, 3) := by decide +kernel
theorem dX6_trial_70 : decode cX6_trial 70 = .ok (.aload_n 0, 1) := by decide +kernel
theorem dX6_trial_71 : decode cX6_trial 71 = .ok (.getfield 43, 3) := by decide +kernel
theorem dX6_trial_74 : decode cX6_trial 74 = .ok (.iload 4, 2) := by decide +kernel
theorem dX6_trial_76 : decode cX6_trial 76 = .ok (.aload_n 0, 1) := by decide +kernel
theorem dX6_trial_77 : decode cX6_trial 77 = .ok (.getfield 40, 3) := by decide +kernel
theorem dX6_trial_80 : decode cX6_trial 80 = .ok (.iload 4, 2) := by decide +kernel
theorem dX6_trial_82 : decode cX6_trial 82 = .ok (.iaload, 1) := by decide +kernel
theorem dX6_trial_83 : decode cX6_trial 83 = .ok (.iastore, 1) := by decide +kernel
theorem dX6_trial_84 : decode cX6_trial 84 = .ok (.iconst 0, 1) := by decide +kernel
theorem dX6_trial_85 : decode cX6_trial 85 = .ok (.istore 5, 2) := by decide +kernel
theorem dX6_trial_87 : decode cX6_trial 87 = .ok (.iload 5, 2) := by decide +kernel
theorem dX6_trial_89 : decode cX6_trial 89 = .ok (.bipush 6, 2) := by decide +kernel
theorem dX6_trial_91 : decode cX6_trial 91 = .ok (.if_icmp .ge 92, 3) := by decide +kernel
theorem dX6_trial_94 : decode cX6_trial 94 = .ok (.aload_n 0, 1) := by decide +kernel
theorem dX6_trial_95 : decode cX6_trial 95 = .ok (.getfield 40, 3) := by decide +kernel
theorem dX6_trial_98 : decode cX6_trial 98 = .ok (.iload 4, 2) := by decide +kernel
theorem dX6_trial_100 : decode cX6_trial 100 = .ok (.iconst 1, 1) := by decide +kernel
theorem dX6_trial_101 : decode cX6_trial 101 = .ok (.iload 5, 2) := by decide +kernel
theorem dX6_trial_103 : decode cX6_trial 103 = .ok (.ishl, 1) := by decide +kernel
theorem dX6_trial_104 : decode cX6_trial 104 = .ok (.ixor, 1) := by decide +kernel
theorem dX6_trial_105 : decode cX6_trial 105 = .ok (.iaload, 1) := by decide +kernel
theorem dX6_trial_106 : decode cX6_trial 106 = .ok (.istore 6, 2) := by decide +kernel
theorem dX6_trial_108 : decode cX6_trial 108 = .ok (.iload_n 3, 1) := by decide +kernel
theorem dX6_trial_109 : decode cX6_trial 109 = .ok (.iconst 2, 1) := by decide +kernel
theorem dX6_trial_110 : decode cX6_trial 110 = .ok (.irem, 1) := by decide +kernel
theorem dX6_trial_111 : decode cX6_trial 111 = .ok (.ifCond .ne 23, 3) := by decide +kernel
theorem dX6_trial_114 : decode cX6_trial 114 = .ok (.iload 6, 2) := by decide +kernel
theorem dX6_trial_116 : decode cX6_trial 116 = .ok (.aload_n 0, 1) := by decide +kernel
theorem dX6_trial_117 : decode cX6_trial 117 = .ok (.getfield 43, 3) := by decide +kernel
theorem dX6_trial_120 : decode cX6_trial 120 = .ok (.iload 4, 2) := by decide +kernel
theorem dX6_trial_122 : decode cX6_trial 122 = .ok (.iaload, 1) := by decide +kernel
theorem dX6_trial_123 : decode cX6_trial 123 = .ok (.if_icmp .le 7, 3) := by decide +kernel
theorem dX6_trial_126 : decode cX6_trial 126 = .ok (.iconst 1, 1) := by decide +kernel
theorem dX6_trial_127 : decode cX6_trial 127 = .ok (.goto 24, 3) := by decide +kernel
theorem dX6_trial_130 : decode cX6_trial 130 = .ok (.iconst 0, 1) := by decide +kernel
theorem dX6_trial_131 : decode cX6_trial 131 = .ok (.goto 20, 3) := by decide +kernel
theorem dX6_trial_134 : decode cX6_trial 134 = .ok (.iload 6, 2) := by decide +kernel
theorem dX6_trial_136 : decode cX6_trial 136 = .ok (.aload_n 0, 1) := by decide +kernel
theorem dX6_trial_137 : decode cX6_trial 137 = .ok (.getfield 43, 3) := by decide +kernel
theorem dX6_trial_140 : decode cX6_trial 140 = .ok (.iload 4, 2) := by decide +kernel
theorem dX6_trial_142 : decode cX6_trial 142 = .ok (.iaload, 1) := by decide +kernel
theorem dX6_trial_143 : decode cX6_trial 143 = .ok (.if_icmp .ge 7, 3) := by decide +kernel
theorem dX6_trial_146 : decode cX6_trial 146 = .ok (.iconst 1, 1) := by decide +kernel
theorem dX6_trial_147 : decode cX6_trial 147 = .ok (.goto 4, 3) := by decide +kernel
theorem dX6_trial_150 : decode cX6_trial 150 = .ok (.iconst 0, 1) := by decide +kernel
theorem dX6_trial_151 : decode cX6_trial 151 = .ok (.istore 7, 2) := by decide +kernel
theorem dX6_trial_153 : decode cX6_trial 153 = .ok (.aload_n 0, 1) := by decide +kernel
theorem dX6_trial_154 : decode cX6_trial 154 = .ok (.getfield 43, 3) := by decide +kernel
theorem dX6_trial_157 : decode cX6_trial 157 = .ok (.iload 4, 2) := by decide +kernel
theorem dX6_trial_159 : decode cX6_trial 159 = .ok (.iload 7, 2) := by decide +kernel
theorem dX6_trial_161 : decode cX6_trial 161 = .ok (.ifCond .eq 8, 3) := by decide +kernel
theorem dX6_trial_164 : decode cX6_trial 164 = .ok (.iload 6, 2) := by decide +kernel
theorem dX6_trial_166 : decode cX6_trial 166 = .ok (.goto 10, 3) := by decide +kernel
theorem dX6_trial_169 : decode cX6_trial 169 = .ok (.aload_n 0, 1) := by decide +kernel
theorem dX6_trial_170 : decode cX6_trial 170 = .ok (.getfield 43, 3) := by decide +kernel
theorem dX6_trial_173 : decode cX6_trial 173 = .ok (.iload 4, 2) := by decide +kernel
theorem dX6_trial_175 : decode cX6_trial 175 = .ok (.iaload, 1) := by decide +kernel
theorem dX6_trial_176 : decode cX6_trial 176 = .ok (.iastore, 1) := by decide +kernel
theorem dX6_trial_177 : decode cX6_trial 177 = .ok (.iinc 5 1, 3) := by decide +kernel
theorem dX6_trial_180 : decode cX6_trial 180 = .ok (.goto (-93), 3) := by decide +kernel
theorem dX6_trial_183 : decode cX6_trial 183 = .ok (.iinc 4 1, 3) := by decide +kernel
theorem dX6_trial_186 : decode cX6_trial 186 = .ok (.goto (-123), 3) := by decide +kernel
theorem dX6_trial_189 : decode cX6_trial 189 = .ok (.iconst 0, 1) := by decide +kernel
theorem dX6_trial_190 : decode cX6_trial 190 = .ok (.istore 4, 2) := by decide +kernel
theorem dX6_trial_192 : decode cX6_trial 192 = .ok (.iload 4, 2) := by decide +kernel
theorem dX6_trial_194 : decode cX6_trial 194 = .ok (.bipush 64, 2) := by decide +kernel
theorem dX6_trial_196 : decode cX6_trial 196 = .ok (.if_icmp .ge 23, 3) := by decide +kernel
theorem dX6_trial_199 : decode cX6_trial 199 = .ok (.aload_n 0, 1) := by decide +kernel
theorem dX6_trial_200 : decode cX6_trial 200 = .ok (.getfield 40, 3) := by decide +kernel
theorem dX6_trial_203 : decode cX6_trial 203 = .ok (.iload 4, 2) := by decide +kernel
theorem dX6_trial_205 : decode cX6_trial 205 = .ok (.aload_n 0, 1) := by decide +kernel
theorem dX6_trial_206 : decode cX6_trial 206 = .ok (.getfield 43, 3) := by decide +kernel
theorem dX6_trial_209 : decode cX6_trial 209 = .ok (.iload 4, 2) := by decide +kernel
theorem dX6_trial_211 : decode cX6_trial 211 = .ok (.iaload, 1) := by decide +kernel
theorem dX6_trial_212 : decode cX6_trial 212 = .ok (.iastore, 1) := by decide +kernel
theorem dX6_trial_213 : decode cX6_trial 213 = .ok (.iinc 4 1, 3) := by decide +kernel
theorem dX6_trial_216 : decode cX6_trial 216 = .ok (.goto (-24), 3) := by decide +kernel
theorem dX6_trial_219 : decode cX6_trial 219 = .ok (.iinc 3 (-1), 3) := by decide +kernel
theorem dX6_trial_222 : decode cX6_trial 222 = .ok (.goto (-166), 3) := by decide +kernel
theorem dX6_trial_225 : decode cX6_trial 225 = .ok (.aload_n 0, 1) := by decide +kernel
theorem dX6_trial_226 : decode cX6_trial 226 = .ok (.getfield 40, 3) := by decide +kernel
theorem dX6_trial_229 : decode cX6_trial 229 = .ok (.aload_n 0, 1) := by decide +kernel
theorem dX6_trial_230 : decode cX6_trial 230 = .ok (.getfield 7, 3) := by decide +kernel
theorem dX6_trial_233 : decode cX6_trial 233 = .ok (.iconst 0, 1) := by decide +kernel
theorem dX6_trial_234 : decode cX6_trial 234 = .ok (.iaload, 1) := by decide +kernel
theorem dX6_trial_235 : decode cX6_trial 235 = .ok (.iaload, 1) := by decide +kernel
theorem dX6_trial_236 : decode cX6_trial 236 = .ok (.istore_n 3, 1) := by decide +kernel
theorem dX6_trial_237 : decode cX6_trial 237 = .ok (.bipush (-4), 2) := by decide +kernel
theorem dX6_trial_239 : decode cX6_trial 239 = .ok (.istore 4, 2) := by decide +kernel
theorem dX6_trial_241 : decode cX6_trial 241 = .ok (.iconst 0, 1) := by decide +kernel
theorem dX6_trial_242 : decode cX6_trial 242 = .ok (.istore 5, 2) := by decide +kernel
theorem dX6_trial_244 : decode cX6_trial 244 = .ok (.iload 5, 2) := by decide +kernel
theorem dX6_trial_246 : decode cX6_trial 246 = .ok (.bipush 6, 2) := by decide +kernel
theorem dX6_trial_248 : decode cX6_trial 248 = .ok (.if_icmp .ge 55, 3) := by decide +kernel
theorem dX6_trial_251 : decode cX6_trial 251 = .ok (.aload_n 0, 1) := by decide +kernel
theorem dX6_trial_252 : decode cX6_trial 252 = .ok (.getfield 40, 3) := by decide +kernel
theorem dX6_trial_255 : decode cX6_trial 255 = .ok (.aload_n 0, 1) := by decide +kernel
theorem dX6_trial_256 : decode cX6_trial 256 = .ok (.getfield 7, 3) := by decide +kernel
theorem dX6_trial_259 : decode cX6_trial 259 = .ok (.iconst 0, 1) := by decide +kernel
theorem dX6_trial_260 : decode cX6_trial 260 = .ok (.iaload, 1) := by decide +kernel
theorem dX6_trial_261 : decode cX6_trial 261 = .ok (.iconst 1, 1) := by decide +kernel
theorem dX6_trial_262 : decode cX6_trial 262 = .ok (.iload 5, 2) := by decide +kernel
theorem dX6_trial_264 : decode cX6_trial 264 = .ok (.ishl, 1) := by decide +kernel
theorem dX6_trial_265 : decode cX6_trial 265 = .ok (.ixor, 1) := by decide +kernel
theorem dX6_trial_266 : decode cX6_trial 266 = .ok (.iaload, 1) := by decide +kernel
theorem dX6_trial_267 : decode cX6_trial 267 = .ok (.istore 6, 2) := by decide +kernel
theorem dX6_trial_269 : decode cX6_trial 269 = .ok (.iload 6, 2) := by decide +kernel
theorem dX6_trial_271 : decode cX6_trial 271 = .ok (.iload_n 3, 1) := by decide +kernel
theorem dX6_trial_272 : decode cX6_trial 272 = .ok (.if_icmp .le 8, 3) := by decide +kernel
theorem dX6_trial_275 : decode cX6_trial 275 = .ok (.iload 5, 2) := by decide +kernel
theorem dX6_trial_277 : decode cX6_trial 277 = .ok (.goto 5, 3) := by decide +kernel
theorem dX6_trial_280 : decode cX6_trial 280 = .ok (.iload 4, 2) := by decide +kernel
theorem dX6_trial_282 : decode cX6_trial 282 = .ok (.istore 4, 2) := by decide +kernel
theorem dX6_trial_284 : decode cX6_trial 284 = .ok (.iload 6, 2) := by decide +kernel
theorem dX6_trial_286 : decode cX6_trial 286 = .ok (.iload_n 3, 1) := by decide +kernel
theorem dX6_trial_287 : decode cX6_trial 287 = .ok (.if_icmp .le 8, 3) := by decide +kernel
theorem dX6_trial_290 : decode cX6_trial 290 = .ok (.iload 6, 2) := by decide +kernel
theorem dX6_trial_292 : decode cX6_trial 292 = .ok (.goto 4, 3) := by decide +kernel
theorem dX6_trial_295 : decode cX6_trial 295 = .ok (.iload_n 3, 1) := by decide +kernel
theorem dX6_trial_296 : decode cX6_trial 296 = .ok (.istore_n 3, 1) := by decide +kernel
theorem dX6_trial_297 : decode cX6_trial 297 = .ok (.iinc 5 1, 3) := by decide +kernel
theorem dX6_trial_300 : decode cX6_trial 300 = .ok (.goto (-56), 3) := by decide +kernel
theorem dX6_trial_303 : decode cX6_trial 303 = .ok (.iload_n 2, 1) := by decide +kernel
theorem dX6_trial_304 : decode cX6_trial 304 = .ok (.ifCond .ne 7, 3) := by decide +kernel
theorem dX6_trial_307 : decode cX6_trial 307 = .ok (.iload_n 3, 1) := by decide +kernel
theorem dX6_trial_308 : decode cX6_trial 308 = .ok (.goto 5, 3) := by decide +kernel
theorem dX6_trial_311 : decode cX6_trial 311 = .ok (.iload 4, 2) := by decide +kernel
theorem dX6_trial_313 : decode cX6_trial 313 = .ok (.ireturn, 1) := by decide +kernel
set_option maxRecDepth 20000 in
theorem ggX6_see_X6_isSaying : GoodIn wsX6_see wsX6_isSaying := goodIn_r _ [7, 8, 9, 10, 6, 11, 12, 13, 14, 15, 16, 17, 18, 19, 20, 21, 22, 23, 24, 25, 26, 27, 28, 29, 30, 31, 32] (by decide +kernel) (by decide +kernel)
set_option maxRecDepth 20000 in
theorem gX6_see_X6_isSaying : GoodIn wsX6_see (wsV RX6 146 RX6 yX6_isSaying wsX6_isSaying) := goodIn_app (goodIn_of _ (by decide +kernel)) ggX6_see_X6_isSaying
theorem dX6_see_0 : decode cX6_see 0 = .ok (.aload_n 0, 1) := by decide +kernel
theorem dX6_see_1 : decode cX6_see 1 = .ok (.iload_n 1, 1) := by decide +kernel
theorem dX6_see_2 : decode cX6_see 2 = .ok (.invokevirtual 146, 3) := by decide +kernel
theorem dX6_see_5 : decode cX6_see 5 = .ok (.ifCond .ne 5, 3) := by decide +kernel
theorem dX6_see_8 : decode cX6_see 8 = .ok (.iconst (-1), 1) := by decide +kernel
theorem dX6_see_9 : decode cX6_see 9 = .ok (.ireturn, 1) := by decide +kernel
theorem dX6_see_10 : decode cX6_see 10 = .ok (.aload_n 0, 1) := by decide +kernel
theorem dX6_see_11 : decode cX6_see 11 = .ok (.getfield 121, 3) := by decide +kernel
theorem dX6_see_14 : decode cX6_see 14 = .ok (.bipush 6, 2) := by decide +kernel
theorem dX6_see_16 : decode cX6_see 16 = .ok (.if_icmp .ne 6, 3) := by decide +kernel
theorem dX6_see_19 : decode cX6_see 19 = .ok (.bipush (-3), 2) := by decide +kernel
theorem dX6_see_21 : decode cX6_see 21 = .ok (.ireturn, 1) := by decide +kernel
theorem dX6_see_22 : decode cX6_see 22 = .ok (.aload_n 0, 1) := by decide +kernel
theorem dX6_see_23 : decode cX6_see 23 = .ok (.getfield 19, 3) := by decide +kernel
theorem dX6_see_26 : decode cX6_see 26 = .ok (.iconst 2, 1) := by decide +kernel
theorem dX6_see_27 : decode cX6_see 27 = .ok (.aload_n 0, 1) := by decide +kernel
theorem dX6_see_28 : decode cX6_see 28 = .ok (.getfield 121, 3) := by decide +kernel
theorem dX6_see_31 : decode cX6_see 31 = .ok (.imul, 1) := by decide +kernel
theorem dX6_see_32 : decode cX6_see 32 = .ok (.iload_n 1, 1) := by decide +kernel
theorem dX6_see_33 : decode cX6_see 33 = .ok (.iastore, 1) := by decide +kernel
theorem dX6_see_34 : decode cX6_see 34 = .ok (.aload_n 0, 1) := by decide +kernel
theorem dX6_see_35 : decode cX6_see 35 = .ok (.getfield 19, 3) := by decide +kernel
theorem dX6_see_38 : decode cX6_see 38 = .ok (.iconst 2, 1) := by decide +kernel
theorem dX6_see_39 : decode cX6_see 39 = .ok (.aload_n 0, 1) := by decide +kernel
theorem dX6_see_40 : decode cX6_see 40 = .ok (.getfield 121, 3) := by decide +kernel
theorem dX6_see_43 : decode cX6_see 43 = .ok (.imul, 1) := by decide +kernel
theorem dX6_see_44 : decode cX6_see 44 = .ok (.iconst 1, 1) := by decide +kernel
theorem dX6_see_45 : decode cX6_see 45 = .ok (.iadd, 1) := by decide +kernel
theorem dX6_see_46 : decode cX6_see 46 = .ok (.iload_n 2, 1) := by decide +kernel
theorem dX6_see_47 : decode cX6_see 47 = .ok (.ifCond .eq 7, 3) := by decide +kernel
theorem dX6_see_50 : decode cX6_see 50 = .ok (.iconst 1, 1) := by decide +kernel
theorem dX6_see_51 : decode cX6_see 51 = .ok (.goto 4, 3) := by decide +kernel
theorem dX6_see_54 : decode cX6_see 54 = .ok (.iconst 0, 1) := by decide +kernel
theorem dX6_see_55 : decode cX6_see 55 = .ok (.iastore, 1) := by decide +kernel
theorem dX6_see_56 : decode cX6_see 56 = .ok (.aload_n 0, 1) := by decide +kernel
theorem dX6_see_57 : decode cX6_see 57 = .ok (.dup, 1) := by decide +kernel
theorem dX6_see_58 : decode cX6_see 58 = .ok (.getfield 121, 3) := by decide +kernel
theorem dX6_see_61 : decode cX6_see 61 = .ok (.iconst 1, 1) := by decide +kernel
theorem dX6_see_62 : decode cX6_see 62 = .ok (.iadd, 1) := by decide +kernel
theorem dX6_see_63 : decode cX6_see 63 = .ok (.putfield 121, 3) := by decide +kernel
theorem dX6_see_66 : decode cX6_see 66 = .ok (.aload_n 0, 1) := by decide +kernel
theorem dX6_see_67 : decode cX6_see 67 = .ok (.getfield 121, 3) := by decide +kernel
theorem dX6_see_70 : decode cX6_see 70 = .ok (.ireturn, 1) := by decide +kernel
theorem dX6_forget_0 : decode cX6_forget 0 = .ok (.aload_n 0, 1) := by decide +kernel
theorem dX6_forget_1 : decode cX6_forget 1 = .ok (.getfield 121, 3) := by decide +kernel
theorem dX6_forget_4 : decode cX6_forget 4 = .ok (.istore_n 1, 1) := by decide +kernel
theorem dX6_forget_5 : decode cX6_forget 5 = .ok (.aload_n 0, 1) := by decide +kernel
theorem dX6_forget_6 : decode cX6_forget 6 = .ok (.iconst 0, 1) := by decide +kernel
theorem dX6_forget_7 : decode cX6_forget 7 = .ok (.putfield 121, 3) := by decide +kernel
theorem dX6_forget_10 : decode cX6_forget 10 = .ok (.iload_n 1, 1) := by decide +kernel
theorem dX6_forget_11 : decode cX6_forget 11 = .ok (.ireturn, 1) := by decide +kernel
set_option maxRecDepth 20000 in
theorem ggX6_isWorld_X6_policeIn : GoodIn wsX6_isWorld wsX6_policeIn := goodIn_r _ [7, 8, 9, 10, 6, 11, 12, 13, 14, 15, 16, 17, 18, 19, 20, 21, 22, 23, 24, 25, 26, 27, 28, 29, 30, 31, 32, 33, 34, 35, 36, 37, 38, 39] (by decide +kernel) (by decide +kernel)
set_option maxRecDepth 20000 in
theorem gX6_isWorld_X6_policeIn : GoodIn wsX6_isWorld (wsV RX6 134 RX6 yX6_policeIn wsX6_policeIn) := goodIn_app (goodIn_of _ (by decide +kernel)) ggX6_isWorld_X6_policeIn
set_option maxRecDepth 20000 in
theorem ggX6_isWorld_X6_has : GoodIn wsX6_isWorld wsX6_has := goodIn_r _ [11] (by decide +kernel) (by decide +kernel)
set_option maxRecDepth 20000 in
theorem gX6_isWorld_X6_has : GoodIn wsX6_isWorld (va_wsS RX6 124 yX6_has wsX6_has) := goodIn_app (goodIn_of _ (by decide +kernel)) ggX6_isWorld_X6_has
theorem dX6_isWorld_0 : decode cX6_isWorld 0 = .ok (.aload_n 0, 1) := by decide +kernel
theorem dX6_isWorld_1 : decode cX6_isWorld 1 = .ok (.iload_n 1, 1) := by decide +kernel
theorem dX6_isWorld_2 : decode cX6_isWorld 2 = .ok (.invokevirtual 134, 3) := by decide +kernel
theorem dX6_isWorld_5 : decode cX6_isWorld 5 = .ok (.istore_n 2, 1) := by decide +kernel
theorem dX6_isWorld_6 : decode cX6_isWorld 6 = .ok (.iconst 1, 1) := by decide +kernel
theorem dX6_isWorld_7 : decode cX6_isWorld 7 = .ok (.istore_n 3, 1) := by decide +kernel
theorem dX6_isWorld_8 : decode cX6_isWorld 8 = .ok (.iconst 0, 1) := by decide +kernel
theorem dX6_isWorld_9 : decode cX6_isWorld 9 = .ok (.istore 4, 2) := by decide +kernel
theorem dX6_isWorld_11 : decode cX6_isWorld 11 = .ok (.iload 4, 2) := by decide +kernel
theorem dX6_isWorld_13 : decode cX6_isWorld 13 = .ok (.aload_n 0, 1) := by decide +kernel
theorem dX6_isWorld_14 : decode cX6_isWorld 14 = .ok (.getfield 121, 3) := by decide +kernel
theorem dX6_isWorld_17 : decode cX6_isWorld 17 = .ok (.if_icmp .ge 55, 3) := by decide +kernel
theorem dX6_isWorld_20 : decode cX6_isWorld 20 = .ok (.iload_n 3, 1) := by decide +kernel
theorem dX6_isWorld_21 : decode cX6_isWorld 21 = .ok (.ifCond .eq 43, 3) := by decide +kernel
theorem dX6_isWorld_24 : decode cX6_isWorld 24 = .ok (.iload_n 2, 1) := by decide +kernel
theorem dX6_isWorld_25 : decode cX6_isWorld 25 = .ok (.aload_n 0, 1) := by decide +kernel
theorem dX6_isWorld_26 : decode cX6_isWorld 26 = .ok (.getfield 19, 3) := by decide +kernel
theorem dX6_isWorld_29 : decode cX6_isWorld 29 = .ok (.iconst 2, 1) := by decide +kernel
theorem dX6_isWorld_30 : decode cX6_isWorld 30 = .ok (.iload 4, 2) := by decide +kernel
theorem dX6_isWorld_32 : decode cX6_isWorld 32 = .ok (.imul, 1) := by decide +kernel
theorem dX6_isWorld_33 : decode cX6_isWorld 33 = .ok (.iaload, 1) := by decide +kernel
theorem dX6_isWorld_34 : decode cX6_isWorld 34 = .ok (.invokestatic 124, 3) := by decide +kernel
theorem dX6_isWorld_37 : decode cX6_isWorld 37 = .ok (.aload_n 0, 1) := by decide +kernel
theorem dX6_isWorld_38 : decode cX6_isWorld 38 = .ok (.getfield 19, 3) := by decide +kernel
theorem dX6_isWorld_41 : decode cX6_isWorld 41 = .ok (.iconst 2, 1) := by decide +kernel
theorem dX6_isWorld_42 : decode cX6_isWorld 42 = .ok (.iload 4, 2) := by decide +kernel
theorem dX6_isWorld_44 : decode cX6_isWorld 44 = .ok (.imul, 1) := by decide +kernel
theorem dX6_isWorld_45 : decode cX6_isWorld 45 = .ok (.iconst 1, 1) := by decide +kernel
theorem dX6_isWorld_46 : decode cX6_isWorld 46 = .ok (.iadd, 1) := by decide +kernel
theorem dX6_isWorld_47 : decode cX6_isWorld 47 = .ok (.iaload, 1) := by decide +kernel
theorem dX6_isWorld_48 : decode cX6_isWorld 48 = .ok (.iconst 1, 1) := by decide +kernel
theorem dX6_isWorld_49 : decode cX6_isWorld 49 = .ok (.if_icmp .ne 7, 3) := by decide +kernel
theorem dX6_isWorld_52 : decode cX6_isWorld 52 = .ok (.iconst 1, 1) := by decide +kernel
theorem dX6_isWorld_53 : decode cX6_isWorld 53 = .ok (.goto 4, 3) := by decide +kernel
theorem dX6_isWorld_56 : decode cX6_isWorld 56 = .ok (.iconst 0, 1) := by decide +kernel
theorem dX6_isWorld_57 : decode cX6_isWorld 57 = .ok (.if_icmp .ne 7, 3) := by decide +kernel
theorem dX6_isWorld_60 : decode cX6_isWorld 60 = .ok (.iconst 1, 1) := by decide +kernel
theorem dX6_isWorld_61 : decode cX6_isWorld 61 = .ok (.goto 4, 3) := by decide +kernel
theorem dX6_isWorld_64 : decode cX6_isWorld 64 = .ok (.iconst 0, 1) := by decide +kernel
theorem dX6_isWorld_65 : decode cX6_isWorld 65 = .ok (.istore_n 3, 1) := by decide +kernel
theorem dX6_isWorld_66 : decode cX6_isWorld 66 = .ok (.iinc 4 1, 3) := by decide +kernel
theorem dX6_isWorld_69 : decode cX6_isWorld 69 = .ok (.goto (-58), 3) := by decide +kernel
theorem dX6_isWorld_72 : decode cX6_isWorld 72 = .ok (.iload_n 3, 1) := by decide +kernel
theorem dX6_isWorld_73 : decode cX6_isWorld 73 = .ok (.ireturn, 1) := by decide +kernel
set_option maxRecDepth 20000 in
theorem ggX6_worlds_X6_in : GoodIn wsX6_worlds wsX6_in := goodIn_r _ [4] (by decide +kernel) (by decide +kernel)
set_option maxRecDepth 20000 in
theorem gX6_worlds_X6_in : GoodIn wsX6_worlds (va_wsS RX6 64 yX6_in wsX6_in) := goodIn_app (goodIn_of _ (by decide +kernel)) ggX6_worlds_X6_in
set_option maxRecDepth 20000 in
theorem ggX6_worlds_X6_asItIs : GoodIn wsX6_worlds wsX6_asItIs := goodIn_r _ [8, 9, 10, 11, 12, 3, 13, 34, 35, 36, 37, 38, 39, 40, 41, 42, 43, 44, 45, 46, 47, 48, 49, 50, 51, 52, 53, 54] (by decide +kernel) (by decide +kernel)
set_option maxRecDepth 20000 in
theorem gX6_worlds_X6_asItIs : GoodIn wsX6_worlds (wsV RX6 149 RX6 yX6_asItIs wsX6_asItIs) := goodIn_app (goodIn_of _ (by decide +kernel)) ggX6_worlds_X6_asItIs
set_option maxRecDepth 20000 in
theorem ggX6_worlds_X6_isWorld : GoodIn wsX6_worlds wsX6_isWorld := goodIn_r _ [17, 18, 19, 20, 21, 22, 3, 23, 9, 24, 25, 26, 27, 28, 29, 30, 31, 32, 33, 34, 35, 36, 37, 38, 39, 40, 41, 42, 43, 44, 45, 46, 47, 48, 49, 50, 51, 52, 53, 54] (by decide +kernel) (by decide +kernel)
set_option maxRecDepth 20000 in
theorem gX6_worlds_X6_isWorld : GoodIn wsX6_worlds (wsV RX6 187 RX6 yX6_isWorld wsX6_isWorld) := goodIn_app (goodIn_of _ (by decide +kernel)) ggX6_worlds_X6_isWorld
theorem dX6_worlds_0 : decode cX6_worlds 0 = .ok (.iload_n 1, 1) := by decide +kernel
theorem dX6_worlds_1 : decode cX6_worlds 1 = .ok (.iconst 0, 1) := by decide +kernel
theorem dX6_worlds_2 : decode cX6_worlds 2 = .ok (.iconst 1, 1) := by decide +kernel
theorem dX6_worlds_3 : decode cX6_worlds 3 = .ok (.invokestatic 64, 3) := by decide +kernel
theorem dX6_worlds_6 : decode cX6_worlds 6 = .ok (.ifCond .ne 5, 3) := by decide +kernel
theorem dX6_worlds_9 : decode cX6_worlds 9 = .ok (.iconst (-1), 1) := by decide +kernel
theorem dX6_worlds_10 : decode cX6_worlds 10 = .ok (.ireturn, 1) := by decide +kernel
theorem dX6_worlds_11 : decode cX6_worlds 11 = .ok (.aload_n 0, 1) := by decide +kernel
theorem dX6_worlds_12 : decode cX6_worlds 12 = .ok (.invokevirtual 149, 3) := by decide +kernel
theorem dX6_worlds_15 : decode cX6_worlds 15 = .ok (.iconst 0, 1) := by decide +kernel
theorem dX6_worlds_16 : decode cX6_worlds 16 = .ok (.istore_n 2, 1) := by decide +kernel
theorem dX6_worlds_17 : decode cX6_worlds 17 = .ok (.bipush (-4), 2) := by decide +kernel
theorem dX6_worlds_19 : decode cX6_worlds 19 = .ok (.istore_n 3, 1) := by decide +kernel
theorem dX6_worlds_20 : decode cX6_worlds 20 = .ok (.bipush 63, 2) := by decide +kernel
theorem dX6_worlds_22 : decode cX6_worlds 22 = .ok (.istore 4, 2) := by decide +kernel
theorem dX6_worlds_24 : decode cX6_worlds 24 = .ok (.iload 4, 2) := by decide +kernel
theorem dX6_worlds_26 : decode cX6_worlds 26 = .ok (.ifCond .lt 42, 3) := by decide +kernel
theorem dX6_worlds_29 : decode cX6_worlds 29 = .ok (.aload_n 0, 1) := by decide +kernel
theorem dX6_worlds_30 : decode cX6_worlds 30 = .ok (.iload 4, 2) := by decide +kernel
theorem dX6_worlds_32 : decode cX6_worlds 32 = .ok (.invokevirtual 187, 3) := by decide +kernel
theorem dX6_worlds_35 : decode cX6_worlds 35 = .ok (.istore 5, 2) := by decide +kernel
theorem dX6_worlds_37 : decode cX6_worlds 37 = .ok (.iload_n 2, 1) := by decide +kernel
theorem dX6_worlds_38 : decode cX6_worlds 38 = .ok (.iload 5, 2) := by decide +kernel
theorem dX6_worlds_40 : decode cX6_worlds 40 = .ok (.ifCond .eq 7, 3) := by decide +kernel
theorem dX6_worlds_43 : decode cX6_worlds 43 = .ok (.iconst 1, 1) := by decide +kernel
theorem dX6_worlds_44 : decode cX6_worlds 44 = .ok (.goto 4, 3) := by decide +kernel
theorem dX6_worlds_47 : decode cX6_worlds 47 = .ok (.iconst 0, 1) := by decide +kernel
theorem dX6_worlds_48 : decode cX6_worlds 48 = .ok (.iadd, 1) := by decide +kernel
theorem dX6_worlds_49 : decode cX6_worlds 49 = .ok (.istore_n 2, 1) := by decide +kernel
theorem dX6_worlds_50 : decode cX6_worlds 50 = .ok (.iload 5, 2) := by decide +kernel
theorem dX6_worlds_52 : decode cX6_worlds 52 = .ok (.ifCond .eq 8, 3) := by decide +kernel
theorem dX6_worlds_55 : decode cX6_worlds 55 = .ok (.iload 4, 2) := by decide +kernel
theorem dX6_worlds_57 : decode cX6_worlds 57 = .ok (.goto 4, 3) := by decide +kernel
theorem dX6_worlds_60 : decode cX6_worlds 60 = .ok (.iload_n 3, 1) := by decide +kernel
theorem dX6_worlds_61 : decode cX6_worlds 61 = .ok (.istore_n 3, 1) := by decide +kernel
theorem dX6_worlds_62 : decode cX6_worlds 62 = .ok (.iinc 4 (-1), 3) := by decide +kernel
theorem dX6_worlds_65 : decode cX6_worlds 65 = .ok (.goto (-41), 3) := by decide +kernel
theorem dX6_worlds_68 : decode cX6_worlds 68 = .ok (.iload_n 1, 1) := by decide +kernel
theorem dX6_worlds_69 : decode cX6_worlds 69 = .ok (.ifCond .ne 7, 3) := by decide +kernel
theorem dX6_worlds_72 : decode cX6_worlds 72 = .ok (.iload_n 2, 1) := by decide +kernel
theorem dX6_worlds_73 : decode cX6_worlds 73 = .ok (.goto 4, 3) := by decide +kernel
theorem dX6_worlds_76 : decode cX6_worlds 76 = .ok (.iload_n 3, 1) := by decide +kernel
theorem dX6_worlds_77 : decode cX6_worlds 77 = .ok (.ireturn, 1) := by decide +kernel
set_option maxRecDepth 20000 in
theorem ggX6_must_X6_isFact : GoodIn wsX6_must wsX6_isFact := goodIn_r _ [4, 5, 6, 3, 7] (by decide +kernel) (by decide +kernel)
set_option maxRecDepth 20000 in
theorem gX6_must_X6_isFact : GoodIn wsX6_must (va_wsS RX6 152 yX6_isFact wsX6_isFact) := goodIn_app (goodIn_of _ (by decide +kernel)) ggX6_must_X6_isFact
set_option maxRecDepth 20000 in
theorem ggX6_must_X6_asItIs : GoodIn wsX6_must wsX6_asItIs := goodIn_r _ [11, 12, 13, 14, 15, 3, 16, 37, 38, 39, 40, 41, 42, 43, 44, 45, 46, 47, 48, 49, 50, 51, 52, 53, 54, 55, 56, 57] (by decide +kernel) (by decide +kernel)
set_option maxRecDepth 20000 in
theorem gX6_must_X6_asItIs : GoodIn wsX6_must (wsV RX6 149 RX6 yX6_asItIs wsX6_asItIs) := goodIn_app (goodIn_of _ (by decide +kernel)) ggX6_must_X6_asItIs
set_option maxRecDepth 20000 in
theorem ggX6_must_X6_isWorld : GoodIn wsX6_must wsX6_isWorld := goodIn_r _ [20, 21, 22, 23, 24, 25, 3, 26, 12, 27, 28, 29, 30, 31, 32, 33, 34, 35, 36, 37, 38, 39, 40, 41, 42, 43, 44, 45, 46, 47, 48, 49, 50, 51, 52, 53, 54, 55, 56, 57] (by decide +kernel) (by decide +kernel)
set_option maxRecDepth 20000 in
theorem gX6_must_X6_isWorld : GoodIn wsX6_must (wsV RX6 187 RX6 yX6_isWorld wsX6_isWorld) := goodIn_app (goodIn_of _ (by decide +kernel)) ggX6_must_X6_isWorld
set_option maxRecDepth 20000 in
theorem ggX6_must_X6_has : GoodIn wsX6_must wsX6_has := goodIn_r _ [29] (by decide +kernel) (by decide +kernel)
set_option maxRecDepth 20000 in
theorem gX6_must_X6_has : GoodIn wsX6_must (va_wsS RX6 124 yX6_has wsX6_has) := goodIn_app (goodIn_of _ (by decide +kernel)) ggX6_must_X6_has
theorem dX6_must_0 : decode cX6_must 0 = .ok (.iload_n 1, 1) := by decide +kernel
theorem dX6_must_1 : decode cX6_must 1 = .ok (.invokestatic 152, 3) := by decide +kernel
theorem dX6_must_4 : decode cX6_must 4 = .ok (.ifCond .ne 5, 3) := by decide +kernel
theorem dX6_must_7 : decode cX6_must 7 = .ok (.iconst (-1), 1) := by decide +kernel
theorem dX6_must_8 : decode cX6_must 8 = .ok (.ireturn, 1) := by decide +kernel
theorem dX6_must_9 : decode cX6_must 9 = .ok (.aload_n 0, 1) := by decide +kernel
theorem dX6_must_10 : decode cX6_must 10 = .ok (.invokevirtual 149, 3) := by decide +kernel
theorem dX6_must_13 : decode cX6_must 13 = .ok (.iconst 0, 1) := by decide +kernel
theorem dX6_must_14 : decode cX6_must 14 = .ok (.istore_n 2, 1) := by decide +kernel
theorem dX6_must_15 : decode cX6_must 15 = .ok (.iconst 0, 1) := by decide +kernel
theorem dX6_must_16 : decode cX6_must 16 = .ok (.istore_n 3, 1) := by decide +kernel
theorem dX6_must_17 : decode cX6_must 17 = .ok (.iconst 0, 1) := by decide +kernel
theorem dX6_must_18 : decode cX6_must 18 = .ok (.istore 4, 2) := by decide +kernel
theorem dX6_must_20 : decode cX6_must 20 = .ok (.iload 4, 2) := by decide +kernel
theorem dX6_must_22 : decode cX6_must 22 = .ok (.bipush 64, 2) := by decide +kernel
theorem dX6_must_24 : decode cX6_must 24 = .ok (.if_icmp .ge 65, 3) := by decide +kernel
theorem dX6_must_27 : decode cX6_must 27 = .ok (.aload_n 0, 1) := by decide +kernel
theorem dX6_must_28 : decode cX6_must 28 = .ok (.iload 4, 2) := by decide +kernel
theorem dX6_must_30 : decode cX6_must 30 = .ok (.invokevirtual 187, 3) := by decide +kernel
theorem dX6_must_33 : decode cX6_must 33 = .ok (.istore 5, 2) := by decide +kernel
theorem dX6_must_35 : decode cX6_must 35 = .ok (.iload_n 2, 1) := by decide +kernel
theorem dX6_must_36 : decode cX6_must 36 = .ok (.ifCond .ne 17, 3) := by decide +kernel
theorem dX6_must_39 : decode cX6_must 39 = .ok (.iload 5, 2) := by decide +kernel
theorem dX6_must_41 : decode cX6_must 41 = .ok (.ifCond .eq 16, 3) := by decide +kernel
theorem dX6_must_44 : decode cX6_must 44 = .ok (.iload 4, 2) := by decide +kernel
theorem dX6_must_46 : decode cX6_must 46 = .ok (.iload_n 1, 1) := by decide +kernel
theorem dX6_must_47 : decode cX6_must 47 = .ok (.invokestatic 124, 3) := by decide +kernel
theorem dX6_must_50 : decode cX6_must 50 = .ok (.ifCond .eq 7, 3) := by decide +kernel
theorem dX6_must_53 : decode cX6_must 53 = .ok (.iconst 1, 1) := by decide +kernel
theorem dX6_must_54 : decode cX6_must 54 = .ok (.goto 4, 3) := by decide +kernel
theorem dX6_must_57 : decode cX6_must 57 = .ok (.iconst 0, 1) := by decide +kernel
theorem dX6_must_58 : decode cX6_must 58 = .ok (.istore_n 2, 1) := by decide +kernel
theorem dX6_must_59 : decode cX6_must 59 = .ok (.iload_n 3, 1) := by decide +kernel
theorem dX6_must_60 : decode cX6_must 60 = .ok (.ifCond .ne 17, 3) := by decide +kernel
theorem dX6_must_63 : decode cX6_must 63 = .ok (.iload 5, 2) := by decide +kernel
theorem dX6_must_65 : decode cX6_must 65 = .ok (.ifCond .eq 16, 3) := by decide +kernel
theorem dX6_must_68 : decode cX6_must 68 = .ok (.iload 4, 2) := by decide +kernel
theorem dX6_must_70 : decode cX6_must 70 = .ok (.iload_n 1, 1) := by decide +kernel
theorem dX6_must_71 : decode cX6_must 71 = .ok (.invokestatic 124, 3) := by decide +kernel
theorem dX6_must_74 : decode cX6_must 74 = .ok (.ifCond .ne 7, 3) := by decide +kernel
theorem dX6_must_77 : decode cX6_must 77 = .ok (.iconst 1, 1) := by decide +kernel
theorem dX6_must_78 : decode cX6_must 78 = .ok (.goto 4, 3) := by decide +kernel
theorem dX6_must_81 : decode cX6_must 81 = .ok (.iconst 0, 1) := by decide +kernel
theorem dX6_must_82 : decode cX6_must 82 = .ok (.istore_n 3, 1) := by decide +kernel
theorem dX6_must_83 : decode cX6_must 83 = .ok (.iinc 4 1, 3) := by decide +kernel
theorem dX6_must_86 : decode cX6_must 86 = .ok (.goto (-66), 3) := by decide +kernel
theorem dX6_must_89 : decode cX6_must 89 = .ok (.iload_n 2, 1) := by decide +kernel
theorem dX6_must_90 : decode cX6_must 90 = .ok (.ifCond .eq 15, 3) := by decide +kernel
theorem dX6_must_93 : decode cX6_must 93 = .ok (.iload_n 3, 1) := by decide +kernel
theorem dX6_must_94 : decode cX6_must 94 = .ok (.ifCond .eq 7, 3) := by decide +kernel
theorem dX6_must_97 : decode cX6_must 97 = .ok (.iconst 2, 1) := by decide +kernel
theorem dX6_must_98 : decode cX6_must 98 = .ok (.goto 17, 3) := by decide +kernel
theorem dX6_must_101 : decode cX6_must 101 = .ok (.iconst 1, 1) := by decide +kernel
theorem dX6_must_102 : decode cX6_must 102 = .ok (.goto 13, 3) := by decide +kernel
theorem dX6_must_105 : decode cX6_must 105 = .ok (.iload_n 3, 1) := by decide +kernel
theorem dX6_must_106 : decode cX6_must 106 = .ok (.ifCond .eq 7, 3) := by decide +kernel
theorem dX6_must_109 : decode cX6_must 109 = .ok (.iconst 0, 1) := by decide +kernel
theorem dX6_must_110 : decode cX6_must 110 = .ok (.goto 5, 3) := by decide +kernel
theorem dX6_must_113 : decode cX6_must 113 = .ok (.bipush (-4), 2) := by decide +kernel
theorem dX6_must_115 : decode cX6_must 115 = .ok (.ireturn, 1) := by decide +kernel
set_option maxRecDepth 20000 in
theorem ggX6_liarsIn_X6_policeIn : GoodIn wsX6_liarsIn wsX6_policeIn := goodIn_r _ [6, 1, 7, 8, 5, 9, 10, 11, 12, 13, 14, 15, 16, 20, 21, 22, 23, 24, 25, 26, 27, 28, 29, 30, 31, 32, 33, 34, 35, 36, 37, 38, 39, 40] (by decide +kernel) (by decide +kernel)
set_option maxRecDepth 20000 in
theorem gX6_liarsIn_X6_policeIn : GoodIn wsX6_liarsIn (wsV RX6 134 RX6 yX6_policeIn wsX6_policeIn) := goodIn_app (goodIn_of _ (by decide +kernel)) ggX6_liarsIn_X6_policeIn
set_option maxRecDepth 20000 in
theorem ggX6_liarsIn_X6_has : GoodIn wsX6_liarsIn wsX6_has := goodIn_r _ [9] (by decide +kernel) (by decide +kernel)
set_option maxRecDepth 20000 in
theorem gX6_liarsIn_X6_has : GoodIn wsX6_liarsIn (va_wsS RX6 124 yX6_has wsX6_has) := goodIn_app (goodIn_of _ (by decide +kernel)) ggX6_liarsIn_X6_has
set_option maxRecDepth 20000 in
theorem ggX6_liarsIn_X6_bits : GoodIn wsX6_liarsIn wsX6_bits := goodIn_r _ [19] (by decide +kernel) (by decide +kernel)
set_option maxRecDepth 20000 in
theorem gX6_liarsIn_X6_bits : GoodIn wsX6_liarsIn (va_wsS RX6 171 yX6_bits wsX6_bits) := goodIn_app (goodIn_of _ (by decide +kernel)) ggX6_liarsIn_X6_bits
theorem dX6_liarsIn_0 : decode cX6_liarsIn 0 = .ok (.aload_n 0, 1) := by decide +kernel
theorem dX6_liarsIn_1 : decode cX6_liarsIn 1 = .ok (.iload_n 1, 1) := by decide +kernel
theorem dX6_liarsIn_2 : decode cX6_liarsIn 2 = .ok (.invokevirtual 134, 3) := by decide +kernel
theorem dX6_liarsIn_5 : decode cX6_liarsIn 5 = .ok (.istore_n 2, 1) := by decide +kernel
theorem dX6_liarsIn_6 : decode cX6_liarsIn 6 = .ok (.iconst 0, 1) := by decide +kernel
theorem dX6_liarsIn_7 : decode cX6_liarsIn 7 = .ok (.istore_n 3, 1) := by decide +kernel
theorem dX6_liarsIn_8 : decode cX6_liarsIn 8 = .ok (.iconst 0, 1) := by decide +kernel
theorem dX6_liarsIn_9 : decode cX6_liarsIn 9 = .ok (.istore 4, 2) := by decide +kernel
theorem dX6_liarsIn_11 : decode cX6_liarsIn 11 = .ok (.iload 4, 2) := by decide +kernel
theorem dX6_liarsIn_13 : decode cX6_liarsIn 13 = .ok (.aload_n 0, 1) := by decide +kernel
theorem dX6_liarsIn_14 : decode cX6_liarsIn 14 = .ok (.getfield 31, 3) := by decide +kernel
theorem dX6_liarsIn_17 : decode cX6_liarsIn 17 = .ok (.iconst 2, 1) := by decide +kernel
theorem dX6_liarsIn_18 : decode cX6_liarsIn 18 = .ok (.iaload, 1) := by decide +kernel
theorem dX6_liarsIn_19 : decode cX6_liarsIn 19 = .ok (.if_icmp .ge 40, 3) := by decide +kernel
theorem dX6_liarsIn_22 : decode cX6_liarsIn 22 = .ok (.iload_n 3, 1) := by decide +kernel
theorem dX6_liarsIn_23 : decode cX6_liarsIn 23 = .ok (.iload_n 2, 1) := by decide +kernel
theorem dX6_liarsIn_24 : decode cX6_liarsIn 24 = .ok (.iload 4, 2) := by decide +kernel
theorem dX6_liarsIn_26 : decode cX6_liarsIn 26 = .ok (.invokestatic 124, 3) := by decide +kernel
theorem dX6_liarsIn_29 : decode cX6_liarsIn 29 = .ok (.ifCond .eq 21, 3) := by decide +kernel
theorem dX6_liarsIn_32 : decode cX6_liarsIn 32 = .ok (.iconst 1, 1) := by decide +kernel
theorem dX6_liarsIn_33 : decode cX6_liarsIn 33 = .ok (.aload_n 0, 1) := by decide +kernel
theorem dX6_liarsIn_34 : decode cX6_liarsIn 34 = .ok (.getfield 31, 3) := by decide +kernel
theorem dX6_liarsIn_37 : decode cX6_liarsIn 37 = .ok (.iconst 4, 1) := by decide +kernel
theorem dX6_liarsIn_38 : decode cX6_liarsIn 38 = .ok (.iconst 4, 1) := by decide +kernel
theorem dX6_liarsIn_39 : decode cX6_liarsIn 39 = .ok (.iload 4, 2) := by decide +kernel
theorem dX6_liarsIn_41 : decode cX6_liarsIn 41 = .ok (.imul, 1) := by decide +kernel
theorem dX6_liarsIn_42 : decode cX6_liarsIn 42 = .ok (.iadd, 1) := by decide +kernel
theorem dX6_liarsIn_43 : decode cX6_liarsIn 43 = .ok (.iconst 3, 1) := by decide +kernel
theorem dX6_liarsIn_44 : decode cX6_liarsIn 44 = .ok (.iadd, 1) := by decide +kernel
theorem dX6_liarsIn_45 : decode cX6_liarsIn 45 = .ok (.iaload, 1) := by decide +kernel
theorem dX6_liarsIn_46 : decode cX6_liarsIn 46 = .ok (.ishl, 1) := by decide +kernel
theorem dX6_liarsIn_47 : decode cX6_liarsIn 47 = .ok (.goto 4, 3) := by decide +kernel
theorem dX6_liarsIn_50 : decode cX6_liarsIn 50 = .ok (.iconst 0, 1) := by decide +kernel
theorem dX6_liarsIn_51 : decode cX6_liarsIn 51 = .ok (.ior, 1) := by decide +kernel
theorem dX6_liarsIn_52 : decode cX6_liarsIn 52 = .ok (.istore_n 3, 1) := by decide +kernel
theorem dX6_liarsIn_53 : decode cX6_liarsIn 53 = .ok (.iinc 4 1, 3) := by decide +kernel
theorem dX6_liarsIn_56 : decode cX6_liarsIn 56 = .ok (.goto (-45), 3) := by decide +kernel
theorem dX6_liarsIn_59 : decode cX6_liarsIn 59 = .ok (.iload_n 3, 1) := by decide +kernel
theorem dX6_liarsIn_60 : decode cX6_liarsIn 60 = .ok (.invokestatic 171, 3) := by decide +kernel
theorem dX6_liarsIn_63 : decode cX6_liarsIn 63 = .ok (.ireturn, 1) := by decide +kernel
set_option maxRecDepth 20000 in
theorem ggX6_liars_X6_in : GoodIn wsX6_liars wsX6_in := goodIn_r _ [4] (by decide +kernel) (by decide +kernel)
set_option maxRecDepth 20000 in
theorem gX6_liars_X6_in : GoodIn wsX6_liars (va_wsS RX6 64 yX6_in wsX6_in) := goodIn_app (goodIn_of _ (by decide +kernel)) ggX6_liars_X6_in
set_option maxRecDepth 20000 in
theorem ggX6_liars_X6_asItIs : GoodIn wsX6_liars wsX6_asItIs := goodIn_r _ [8, 9, 10, 11, 12, 3, 13, 41, 42, 43, 44, 45, 46, 47, 48, 49, 50, 51, 52, 53, 54, 55, 56, 57, 58, 59, 60, 61] (by decide +kernel) (by decide +kernel)
set_option maxRecDepth 20000 in
theorem gX6_liars_X6_asItIs : GoodIn wsX6_liars (wsV RX6 149 RX6 yX6_asItIs wsX6_asItIs) := goodIn_app (goodIn_of _ (by decide +kernel)) ggX6_liars_X6_asItIs
set_option maxRecDepth 20000 in
theorem ggX6_liars_X6_liarsIn : GoodIn wsX6_liars wsX6_liarsIn := goodIn_r _ [17, 9, 18, 19, 20, 3, 21, 22, 23, 24, 25, 26, 27, 28, 29, 30, 31, 32, 33, 34, 41, 42, 43, 44, 45, 46, 47, 48, 49, 50, 51, 52, 53, 54, 55, 56, 57, 58, 59, 60, 61] (by decide +kernel) (by decide +kernel)
set_option maxRecDepth 20000 in
theorem gX6_liars_X6_liarsIn : GoodIn wsX6_liars (wsV RX6 190 RX6 yX6_liarsIn wsX6_liarsIn) := goodIn_app (goodIn_of _ (by decide +kernel)) ggX6_liars_X6_liarsIn
set_option maxRecDepth 20000 in
theorem ggX6_liars_X6_isWorld : GoodIn wsX6_liars wsX6_isWorld := goodIn_r _ [38, 39, 40, 18, 19, 20, 3, 21, 9, 22, 23, 24, 25, 26, 27, 28, 29, 30, 31, 41, 42, 43, 44, 45, 46, 47, 48, 49, 50, 51, 52, 53, 54, 55, 56, 57, 58, 59, 60, 61] (by decide +kernel) (by decide +kernel)
set_option maxRecDepth 20000 in
theorem gX6_liars_X6_isWorld : GoodIn wsX6_liars (wsV RX6 187 RX6 yX6_isWorld wsX6_isWorld) := goodIn_app (goodIn_of _ (by decide +kernel)) ggX6_liars_X6_isWorld
theorem dX6_liars_0 : decode cX6_liars 0 = .ok (.iload_n 1, 1) := by decide +kernel
theorem dX6_liars_1 : decode cX6_liars 1 = .ok (.iconst 0, 1) := by decide +kernel
theorem dX6_liars_2 : decode cX6_liars 2 = .ok (.iconst 1, 1) := by decide +kernel
theorem dX6_liars_3 : decode cX6_liars 3 = .ok (.invokestatic 64, 3) := by decide +kernel
theorem dX6_liars_6 : decode cX6_liars 6 = .ok (.ifCond .ne 5, 3) := by decide +kernel
theorem dX6_liars_9 : decode cX6_liars 9 = .ok (.iconst (-1), 1) := by decide +kernel
theorem dX6_liars_10 : decode cX6_liars 10 = .ok (.ireturn, 1) := by decide +kernel
theorem dX6_liars_11 : decode cX6_liars 11 = .ok (.aload_n 0, 1) := by decide +kernel
theorem dX6_liars_12 : decode cX6_liars 12 = .ok (.invokevirtual 149, 3) := by decide +kernel
theorem dX6_liars_15 : decode cX6_liars 15 = .ok (.bipush (-4), 2) := by decide +kernel
theorem dX6_liars_17 : decode cX6_liars 17 = .ok (.istore_n 2, 1) := by decide +kernel
theorem dX6_liars_18 : decode cX6_liars 18 = .ok (.bipush (-4), 2) := by decide +kernel
theorem dX6_liars_20 : decode cX6_liars 20 = .ok (.istore_n 3, 1) := by decide +kernel
theorem dX6_liars_21 : decode cX6_liars 21 = .ok (.iconst 0, 1) := by decide +kernel
theorem dX6_liars_22 : decode cX6_liars 22 = .ok (.istore 4, 2) := by decide +kernel
theorem dX6_liars_24 : decode cX6_liars 24 = .ok (.iload 4, 2) := by decide +kernel
theorem dX6_liars_26 : decode cX6_liars 26 = .ok (.bipush 64, 2) := by decide +kernel
theorem dX6_liars_28 : decode cX6_liars 28 = .ok (.if_icmp .ge 67, 3) := by decide +kernel
theorem dX6_liars_31 : decode cX6_liars 31 = .ok (.aload_n 0, 1) := by decide +kernel
theorem dX6_liars_32 : decode cX6_liars 32 = .ok (.iload 4, 2) := by decide +kernel
theorem dX6_liars_34 : decode cX6_liars 34 = .ok (.invokevirtual 190, 3) := by decide +kernel
theorem dX6_liars_37 : decode cX6_liars 37 = .ok (.istore 5, 2) := by decide +kernel
theorem dX6_liars_39 : decode cX6_liars 39 = .ok (.aload_n 0, 1) := by decide +kernel
theorem dX6_liars_40 : decode cX6_liars 40 = .ok (.iload 4, 2) := by decide +kernel
theorem dX6_liars_42 : decode cX6_liars 42 = .ok (.invokevirtual 187, 3) := by decide +kernel
theorem dX6_liars_45 : decode cX6_liars 45 = .ok (.ifCond .eq 17, 3) := by decide +kernel
theorem dX6_liars_48 : decode cX6_liars 48 = .ok (.iload_n 2, 1) := by decide +kernel
theorem dX6_liars_49 : decode cX6_liars 49 = .ok (.ifCond .lt 9, 3) := by decide +kernel
theorem dX6_liars_52 : decode cX6_liars 52 = .ok (.iload 5, 2) := by decide +kernel
theorem dX6_liars_54 : decode cX6_liars 54 = .ok (.iload_n 2, 1) := by decide +kernel
theorem dX6_liars_55 : decode cX6_liars 55 = .ok (.if_icmp .ge 7, 3) := by decide +kernel
theorem dX6_liars_58 : decode cX6_liars 58 = .ok (.iconst 1, 1) := by decide +kernel
theorem dX6_liars_59 : decode cX6_liars 59 = .ok (.goto 4, 3) := by decide +kernel
theorem dX6_liars_62 : decode cX6_liars 62 = .ok (.iconst 0, 1) := by decide +kernel
theorem dX6_liars_63 : decode cX6_liars 63 = .ok (.istore 6, 2) := by decide +kernel
theorem dX6_liars_65 : decode cX6_liars 65 = .ok (.iload 6, 2) := by decide +kernel
theorem dX6_liars_67 : decode cX6_liars 67 = .ok (.ifCond .eq 8, 3) := by decide +kernel
theorem dX6_liars_70 : decode cX6_liars 70 = .ok (.iload 4, 2) := by decide +kernel
theorem dX6_liars_72 : decode cX6_liars 72 = .ok (.goto 4, 3) := by decide +kernel
theorem dX6_liars_75 : decode cX6_liars 75 = .ok (.iload_n 3, 1) := by decide +kernel
theorem dX6_liars_76 : decode cX6_liars 76 = .ok (.istore_n 3, 1) := by decide +kernel
theorem dX6_liars_77 : decode cX6_liars 77 = .ok (.iload 6, 2) := by decide +kernel
theorem dX6_liars_79 : decode cX6_liars 79 = .ok (.ifCond .eq 8, 3) := by decide +kernel
theorem dX6_liars_82 : decode cX6_liars 82 = .ok (.iload 5, 2) := by decide +kernel
theorem dX6_liars_84 : decode cX6_liars 84 = .ok (.goto 4, 3) := by decide +kernel
theorem dX6_liars_87 : decode cX6_liars 87 = .ok (.iload_n 2, 1) := by decide +kernel
theorem dX6_liars_88 : decode cX6_liars 88 = .ok (.istore_n 2, 1) := by decide +kernel
theorem dX6_liars_89 : decode cX6_liars 89 = .ok (.iinc 4 1, 3) := by decide +kernel
theorem dX6_liars_92 : decode cX6_liars 92 = .ok (.goto (-68), 3) := by decide +kernel
theorem dX6_liars_95 : decode cX6_liars 95 = .ok (.iload_n 1, 1) := by decide +kernel
theorem dX6_liars_96 : decode cX6_liars 96 = .ok (.ifCond .ne 7, 3) := by decide +kernel
theorem dX6_liars_99 : decode cX6_liars 99 = .ok (.iload_n 2, 1) := by decide +kernel
theorem dX6_liars_100 : decode cX6_liars 100 = .ok (.goto 4, 3) := by decide +kernel
theorem dX6_liars_103 : decode cX6_liars 103 = .ok (.iload_n 3, 1) := by decide +kernel
theorem dX6_liars_104 : decode cX6_liars 104 = .ok (.ireturn, 1) := by decide +kernel
set_option maxRecDepth 20000 in
theorem ggX6_chance_X6_in : GoodIn wsX6_chance wsX6_in := goodIn_r _ [6] (by decide +kernel) (by decide +kernel)
set_option maxRecDepth 20000 in
theorem gX6_chance_X6_in : GoodIn wsX6_chance (va_wsS RX6 64 yX6_in wsX6_in) := goodIn_app (goodIn_of _ (by decide +kernel)) ggX6_chance_X6_in
set_option maxRecDepth 20000 in
theorem ggX6_chance_X6_asItIs : GoodIn wsX6_chance wsX6_asItIs := goodIn_r _ [10, 11, 1, 12, 13, 5, 14, 32, 33, 34, 35, 36, 37, 38, 39, 40, 41, 42, 43, 44, 45, 46, 47, 48, 49, 50, 51, 52] (by decide +kernel) (by decide +kernel)
set_option maxRecDepth 20000 in
theorem gX6_chance_X6_asItIs : GoodIn wsX6_chance (wsV RX6 149 RX6 yX6_asItIs wsX6_asItIs) := goodIn_app (goodIn_of _ (by decide +kernel)) ggX6_chance_X6_asItIs
set_option maxRecDepth 20000 in
theorem ggX6_chance_X6_policeIn : GoodIn wsX6_chance wsX6_policeIn := goodIn_r _ [18, 11, 19, 20, 5, 21, 22, 23, 24, 25, 26, 27, 28, 32, 33, 34, 35, 36, 37, 38, 39, 40, 41, 42, 43, 44, 45, 46, 47, 48, 49, 50, 51, 52] (by decide +kernel) (by decide +kernel)
set_option maxRecDepth 20000 in
theorem gX6_chance_X6_policeIn : GoodIn wsX6_chance (wsV RX6 134 RX6 yX6_policeIn wsX6_policeIn) := goodIn_app (goodIn_of _ (by decide +kernel)) ggX6_chance_X6_policeIn
set_option maxRecDepth 20000 in
theorem ggX6_chance_X6_bits : GoodIn wsX6_chance wsX6_bits := goodIn_r _ [31] (by decide +kernel) (by decide +kernel)
set_option maxRecDepth 20000 in
theorem gX6_chance_X6_bits : GoodIn wsX6_chance (va_wsS RX6 171 yX6_bits wsX6_bits) := goodIn_app (goodIn_of _ (by decide +kernel)) ggX6_chance_X6_bits
set_option maxRecDepth 20000 in
theorem ggX6_chance_X6_has : GoodIn wsX6_chance wsX6_has := goodIn_r _ [21] (by decide +kernel) (by decide +kernel)
set_option maxRecDepth 20000 in
theorem gX6_chance_X6_has : GoodIn wsX6_chance (va_wsS RX6 124 yX6_has wsX6_has) := goodIn_app (goodIn_of _ (by decide +kernel)) ggX6_chance_X6_has
theorem dX6_chance_0 : decode cX6_chance 0 = .ok (.iload_n 1, 1) := by decide +kernel
theorem dX6_chance_1 : decode cX6_chance 1 = .ok (.iconst 0, 1) := by decide +kernel
theorem dX6_chance_2 : decode cX6_chance 2 = .ok (.bipush 9, 2) := by decide +kernel
theorem dX6_chance_4 : decode cX6_chance 4 = .ok (.invokestatic 64, 3) := by decide +kernel
theorem dX6_chance_7 : decode cX6_chance 7 = .ok (.ifCond .eq 22, 3) := by decide +kernel
theorem dX6_chance_10 : decode cX6_chance 10 = .ok (.iload_n 2, 1) := by decide +kernel
theorem dX6_chance_11 : decode cX6_chance 11 = .ok (.iconst 0, 1) := by decide +kernel
theorem dX6_chance_12 : decode cX6_chance 12 = .ok (.bipush 10, 2) := by decide +kernel
theorem dX6_chance_14 : decode cX6_chance 14 = .ok (.invokestatic 64, 3) := by decide +kernel
theorem dX6_chance_17 : decode cX6_chance 17 = .ok (.ifCond .eq 12, 3) := by decide +kernel
theorem dX6_chance_20 : decode cX6_chance 20 = .ok (.iload_n 3, 1) := by decide +kernel
theorem dX6_chance_21 : decode cX6_chance 21 = .ok (.iconst 0, 1) := by decide +kernel
theorem dX6_chance_22 : decode cX6_chance 22 = .ok (.iconst 1, 1) := by decide +kernel
theorem dX6_chance_23 : decode cX6_chance 23 = .ok (.invokestatic 64, 3) := by decide +kernel
theorem dX6_chance_26 : decode cX6_chance 26 = .ok (.ifCond .ne 5, 3) := by decide +kernel
theorem dX6_chance_29 : decode cX6_chance 29 = .ok (.iconst (-1), 1) := by decide +kernel
theorem dX6_chance_30 : decode cX6_chance 30 = .ok (.ireturn, 1) := by decide +kernel
theorem dX6_chance_31 : decode cX6_chance 31 = .ok (.aload_n 0, 1) := by decide +kernel
theorem dX6_chance_32 : decode cX6_chance 32 = .ok (.invokevirtual 149, 3) := by decide +kernel
theorem dX6_chance_35 : decode cX6_chance 35 = .ok (.iconst 0, 1) := by decide +kernel
theorem dX6_chance_36 : decode cX6_chance 36 = .ok (.istore 4, 2) := by decide +kernel
theorem dX6_chance_38 : decode cX6_chance 38 = .ok (.iconst 0, 1) := by decide +kernel
theorem dX6_chance_39 : decode cX6_chance 39 = .ok (.istore 5, 2) := by decide +kernel
theorem dX6_chance_41 : decode cX6_chance 41 = .ok (.iload 5, 2) := by decide +kernel
theorem dX6_chance_43 : decode cX6_chance 43 = .ok (.bipush 64, 2) := by decide +kernel
theorem dX6_chance_45 : decode cX6_chance 45 = .ok (.if_icmp .ge 78, 3) := by decide +kernel
theorem dX6_chance_48 : decode cX6_chance 48 = .ok (.aload_n 0, 1) := by decide +kernel
theorem dX6_chance_49 : decode cX6_chance 49 = .ok (.aload_n 0, 1) := by decide +kernel
theorem dX6_chance_50 : decode cX6_chance 50 = .ok (.getfield 7, 3) := by decide +kernel
theorem dX6_chance_53 : decode cX6_chance 53 = .ok (.iconst 0, 1) := by decide +kernel
theorem dX6_chance_54 : decode cX6_chance 54 = .ok (.iaload, 1) := by decide +kernel
theorem dX6_chance_55 : decode cX6_chance 55 = .ok (.iload 5, 2) := by decide +kernel
theorem dX6_chance_57 : decode cX6_chance 57 = .ok (.ixor, 1) := by decide +kernel
theorem dX6_chance_58 : decode cX6_chance 58 = .ok (.invokevirtual 134, 3) := by decide +kernel
theorem dX6_chance_61 : decode cX6_chance 61 = .ok (.invokestatic 171, 3) := by decide +kernel
theorem dX6_chance_64 : decode cX6_chance 64 = .ok (.iload_n 1, 1) := by decide +kernel
theorem dX6_chance_65 : decode cX6_chance 65 = .ok (.if_icmp .lt 52, 3) := by decide +kernel
theorem dX6_chance_68 : decode cX6_chance 68 = .ok (.iconst 1, 1) := by decide +kernel
theorem dX6_chance_69 : decode cX6_chance 69 = .ok (.istore 6, 2) := by decide +kernel
theorem dX6_chance_71 : decode cX6_chance 71 = .ok (.iconst 0, 1) := by decide +kernel
theorem dX6_chance_72 : decode cX6_chance 72 = .ok (.istore 7, 2) := by decide +kernel
theorem dX6_chance_74 : decode cX6_chance 74 = .ok (.iload 7, 2) := by decide +kernel
theorem dX6_chance_76 : decode cX6_chance 76 = .ok (.bipush 6, 2) := by decide +kernel
theorem dX6_chance_78 : decode cX6_chance 78 = .ok (.if_icmp .ge 32, 3) := by decide +kernel
theorem dX6_chance_81 : decode cX6_chance 81 = .ok (.iload 6, 2) := by decide +kernel
theorem dX6_chance_83 : decode cX6_chance 83 = .ok (.iload 5, 2) := by decide +kernel
theorem dX6_chance_85 : decode cX6_chance 85 = .ok (.iload 7, 2) := by decide +kernel
theorem dX6_chance_87 : decode cX6_chance 87 = .ok (.invokestatic 124, 3) := by decide +kernel
theorem dX6_chance_90 : decode cX6_chance 90 = .ok (.ifCond .eq 7, 3) := by decide +kernel
theorem dX6_chance_93 : decode cX6_chance 93 = .ok (.iload_n 2, 1) := by decide +kernel
theorem dX6_chance_94 : decode cX6_chance 94 = .ok (.goto 7, 3) := by decide +kernel
theorem dX6_chance_97 : decode cX6_chance 97 = .ok (.bipush 10, 2) := by decide +kernel
theorem dX6_chance_99 : decode cX6_chance 99 = .ok (.iload_n 2, 1) := by decide +kernel
theorem dX6_chance_100 : decode cX6_chance 100 = .ok (.isub, 1) := by decide +kernel
theorem dX6_chance_101 : decode cX6_chance 101 = .ok (.imul, 1) := by decide +kernel
theorem dX6_chance_102 : decode cX6_chance 102 = .ok (.istore 6, 2) := by decide +kernel
theorem dX6_chance_104 : decode cX6_chance 104 = .ok (.iinc 7 1, 3) := by decide +kernel
theorem dX6_chance_107 : decode cX6_chance 107 = .ok (.goto (-33), 3) := by decide +kernel
theorem dX6_chance_110 : decode cX6_chance 110 = .ok (.iload 4, 2) := by decide +kernel
theorem dX6_chance_112 : decode cX6_chance 112 = .ok (.iload 6, 2) := by decide +kernel
theorem dX6_chance_114 : decode cX6_chance 114 = .ok (.iadd, 1) := by decide +kernel
theorem dX6_chance_115 : decode cX6_chance 115 = .ok (.istore 4, 2) := by decide +kernel
theorem dX6_chance_117 : decode cX6_chance 117 = .ok (.iinc 5 1, 3) := by decide +kernel
theorem dX6_chance_120 : decode cX6_chance 120 = .ok (.goto (-79), 3) := by decide +kernel
theorem dX6_chance_123 : decode cX6_chance 123 = .ok (.iload 4, 2) := by decide +kernel
theorem dX6_chance_125 : decode cX6_chance 125 = .ok (.istore 5, 2) := by decide +kernel
theorem dX6_chance_127 : decode cX6_chance 127 = .ok (.ldc 193, 2) := by decide +kernel
theorem dX6_chance_129 : decode cX6_chance 129 = .ok (.istore 6, 2) := by decide +kernel
theorem dX6_chance_131 : decode cX6_chance 131 = .ok (.iload 6, 2) := by decide +kernel
theorem dX6_chance_133 : decode cX6_chance 133 = .ok (.ifCond .le 21, 3) := by decide +kernel
theorem dX6_chance_136 : decode cX6_chance 136 = .ok (.iload 5, 2) := by decide +kernel
theorem dX6_chance_138 : decode cX6_chance 138 = .ok (.iload 6, 2) := by decide +kernel
theorem dX6_chance_140 : decode cX6_chance 140 = .ok (.irem, 1) := by decide +kernel
theorem dX6_chance_141 : decode cX6_chance 141 = .ok (.istore 7, 2) := by decide +kernel
theorem dX6_chance_143 : decode cX6_chance 143 = .ok (.iload 6, 2) := by decide +kernel
theorem dX6_chance_145 : decode cX6_chance 145 = .ok (.istore 5, 2) := by decide +kernel
theorem dX6_chance_147 : decode cX6_chance 147 = .ok (.iload 7, 2) := by decide +kernel
theorem dX6_chance_149 : decode cX6_chance 149 = .ok (.istore 6, 2) := by decide +kernel
theorem dX6_chance_151 : decode cX6_chance 151 = .ok (.goto (-20), 3) := by decide +kernel
theorem dX6_chance_154 : decode cX6_chance 154 = .ok (.iload_n 3, 1) := by decide +kernel
theorem dX6_chance_155 : decode cX6_chance 155 = .ok (.ifCond .ne 8, 3) := by decide +kernel
theorem dX6_chance_158 : decode cX6_chance 158 = .ok (.iload 4, 2) := by decide +kernel
theorem dX6_chance_160 : decode cX6_chance 160 = .ok (.goto 5, 3) := by decide +kernel
theorem dX6_chance_163 : decode cX6_chance 163 = .ok (.ldc 193, 2) := by decide +kernel
theorem dX6_chance_165 : decode cX6_chance 165 = .ok (.iload 5, 2) := by decide +kernel
theorem dX6_chance_167 : decode cX6_chance 167 = .ok (.idiv, 1) := by decide +kernel
theorem dX6_chance_168 : decode cX6_chance 168 = .ok (.ireturn, 1) := by decide +kernel
set_option maxRecDepth 20000 in
theorem ggX6_year_X6_in : GoodIn wsX6_year wsX6_in := goodIn_r _ [9] (by decide +kernel) (by decide +kernel)
set_option maxRecDepth 20000 in
theorem gX6_year_X6_in : GoodIn wsX6_year (va_wsS RX6 64 yX6_in wsX6_in) := goodIn_app (goodIn_of _ (by decide +kernel)) ggX6_year_X6_in
set_option maxRecDepth 20000 in
theorem ggX6_year_X6_asItIs : GoodIn wsX6_year wsX6_asItIs := goodIn_r _ [13, 5, 14, 15, 16, 8, 17, 61, 62, 63, 64, 65, 66, 67, 68, 69, 70, 71, 72, 73, 74, 75, 76, 77, 78, 79, 80, 81] (by decide +kernel) (by decide +kernel)
set_option maxRecDepth 20000 in
theorem gX6_year_X6_asItIs : GoodIn wsX6_year (wsV RX6 149 RX6 yX6_asItIs wsX6_asItIs) := goodIn_app (goodIn_of _ (by decide +kernel)) ggX6_year_X6_asItIs
set_option maxRecDepth 20000 in
theorem ggX6_year_X6_appoints : GoodIn wsX6_year wsX6_appoints := goodIn_r _ [21, 5, 22, 23, 24, 8, 25, 26, 27, 28, 29, 30, 31, 32, 33, 34, 35, 61, 62, 63, 64, 65, 66, 67, 68, 69, 70, 71, 72, 73, 74, 75, 76, 77, 78, 79, 80, 81] (by decide +kernel) (by decide +kernel)
set_option maxRecDepth 20000 in
theorem gX6_year_X6_appoints : GoodIn wsX6_year (wsV RX6 112 RX6 yX6_appoints wsX6_appoints) := goodIn_app (goodIn_of _ (by decide +kernel)) ggX6_year_X6_appoints
set_option maxRecDepth 20000 in
theorem ggX6_year_X6_canBeWithdrawn : GoodIn wsX6_year wsX6_canBeWithdrawn := goodIn_r _ [39, 5, 40, 26, 27, 8, 28, 61, 62, 63, 64, 65, 66, 67, 68, 69, 70, 71, 72, 73, 74, 75, 76, 77, 78, 79, 80, 81] (by decide +kernel) (by decide +kernel)
set_option maxRecDepth 20000 in
theorem gX6_year_X6_canBeWithdrawn : GoodIn wsX6_year (wsV RX6 161 RX6 yX6_canBeWithdrawn wsX6_canBeWithdrawn) := goodIn_app (goodIn_of _ (by decide +kernel)) ggX6_year_X6_canBeWithdrawn
set_option maxRecDepth 20000 in
theorem ggX6_year_X6_withdraws : GoodIn wsX6_year wsX6_withdraws := goodIn_r _ [44, 5, 61, 62, 63, 64, 65, 66, 67, 68, 69, 70, 71, 72, 73, 74, 75, 76, 77, 78, 79, 80, 81] (by decide +kernel) (by decide +kernel)
set_option maxRecDepth 20000 in
theorem gX6_year_X6_withdraws : GoodIn wsX6_year (wsV RX6 164 RX6 yX6_withdraws wsX6_withdraws) := goodIn_app (goodIn_of _ (by decide +kernel)) ggX6_year_X6_withdraws
set_option maxRecDepth 20000 in
theorem ggX6_year_X6_goes : GoodIn wsX6_year wsX6_goes := goodIn_r _ [48, 49, 5, 40, 1, 50, 51, 52, 8, 53, 29, 30, 31, 32, 33, 34, 35, 26, 27, 28, 61, 62, 63, 64, 65, 66, 67, 68, 69, 70, 71, 72, 73, 74, 75, 76, 77, 78, 79, 80, 81] (by decide +kernel) (by decide +kernel)
set_option maxRecDepth 20000 in
theorem gX6_year_X6_goes : GoodIn wsX6_year (wsV RX6 158 RX6 yX6_goes wsX6_goes) := goodIn_app (goodIn_of _ (by decide +kernel)) ggX6_year_X6_goes
set_option maxRecDepth 20000 in
theorem ggX6_year_X6_police : GoodIn wsX6_year wsX6_police := goodIn_r _ [57, 5, 61, 62, 63, 64, 65, 66, 67, 68, 69, 70, 71, 72, 73, 74, 75, 76, 77, 78, 79, 80, 81] (by decide +kernel) (by decide +kernel)
set_option maxRecDepth 20000 in
theorem gX6_year_X6_police : GoodIn wsX6_year (wsV RX6 168 RX6 yX6_police wsX6_police) := goodIn_app (goodIn_of _ (by decide +kernel)) ggX6_year_X6_police
set_option maxRecDepth 20000 in
theorem ggX6_year_X6_bits : GoodIn wsX6_year wsX6_bits := goodIn_r _ [60] (by decide +kernel) (by decide +kernel)
set_option maxRecDepth 20000 in
theorem gX6_year_X6_bits : GoodIn wsX6_year (va_wsS RX6 171 yX6_bits wsX6_bits) := goodIn_app (goodIn_of _ (by decide +kernel)) ggX6_year_X6_bits
theorem dX6_year_0 : decode cX6_year 0 = .ok (.iload_n 1, 1) := by decide +kernel
theorem dX6_year_1 : decode cX6_year 1 = .ok (.iconst 0, 1) := by decide +kernel
theorem dX6_year_2 : decode cX6_year 2 = .ok (.sipush 9999, 3) := by decide +kernel
theorem dX6_year_5 : decode cX6_year 5 = .ok (.invokestatic 64, 3) := by decide +kernel
theorem dX6_year_8 : decode cX6_year 8 = .ok (.ifCond .eq 22, 3) := by decide +kernel
theorem dX6_year_11 : decode cX6_year 11 = .ok (.iload_n 2, 1) := by decide +kernel
theorem dX6_year_12 : decode cX6_year 12 = .ok (.iconst 1, 1) := by decide +kernel
theorem dX6_year_13 : decode cX6_year 13 = .ok (.bipush 60, 2) := by decide +kernel
theorem dX6_year_15 : decode cX6_year 15 = .ok (.invokestatic 64, 3) := by decide +kernel
theorem dX6_year_18 : decode cX6_year 18 = .ok (.ifCond .eq 12, 3) := by decide +kernel
theorem dX6_year_21 : decode cX6_year 21 = .ok (.iload_n 3, 1) := by decide +kernel
theorem dX6_year_22 : decode cX6_year 22 = .ok (.iconst 0, 1) := by decide +kernel
theorem dX6_year_23 : decode cX6_year 23 = .ok (.iconst 1, 1) := by decide +kernel
theorem dX6_year_24 : decode cX6_year 24 = .ok (.invokestatic 64, 3) := by decide +kernel
theorem dX6_year_27 : decode cX6_year 27 = .ok (.ifCond .ne 5, 3) := by decide +kernel
theorem dX6_year_30 : decode cX6_year 30 = .ok (.iconst (-1), 1) := by decide +kernel
theorem dX6_year_31 : decode cX6_year 31 = .ok (.ireturn, 1) := by decide +kernel
theorem dX6_year_32 : decode cX6_year 32 = .ok (.aload_n 0, 1) := by decide +kernel
theorem dX6_year_33 : decode cX6_year 33 = .ok (.invokevirtual 149, 3) := by decide +kernel
theorem dX6_year_36 : decode cX6_year 36 = .ok (.aload_n 0, 1) := by decide +kernel
theorem dX6_year_37 : decode cX6_year 37 = .ok (.iconst 0, 1) := by decide +kernel
theorem dX6_year_38 : decode cX6_year 38 = .ok (.putfield 143, 3) := by decide +kernel
theorem dX6_year_41 : decode cX6_year 41 = .ok (.iconst 0, 1) := by decide +kernel
theorem dX6_year_42 : decode cX6_year 42 = .ok (.istore 4, 2) := by decide +kernel
theorem dX6_year_44 : decode cX6_year 44 = .ok (.iload 4, 2) := by decide +kernel
theorem dX6_year_46 : decode cX6_year 46 = .ok (.iload_n 2, 1) := by decide +kernel
theorem dX6_year_47 : decode cX6_year 47 = .ok (.if_icmp .ge 113, 3) := by decide +kernel
theorem dX6_year_50 : decode cX6_year 50 = .ok (.ldc2_w 194, 3) := by decide +kernel
theorem dX6_year_53 : decode cX6_year 53 = .ok (.iload_n 1, 1) := by decide +kernel
theorem dX6_year_54 : decode cX6_year 54 = .ok (.i2l, 1) := by decide +kernel
theorem dX6_year_55 : decode cX6_year 55 = .ok (.lmul, 1) := by decide +kernel
theorem dX6_year_56 : decode cX6_year 56 = .ok (.ldc2_w 196, 3) := by decide +kernel
theorem dX6_year_59 : decode cX6_year 59 = .ok (.iload 4, 2) := by decide +kernel
theorem dX6_year_61 : decode cX6_year 61 = .ok (.i2l, 1) := by decide +kernel
theorem dX6_year_62 : decode cX6_year 62 = .ok (.lmul, 1) := by decide +kernel
theorem dX6_year_63 : decode cX6_year 63 = .ok (.ladd, 1) := by decide +kernel
theorem dX6_year_64 : decode cX6_year 64 = .ok (.lconst 1, 1) := by decide +kernel
theorem dX6_year_65 : decode cX6_year 65 = .ok (.ladd, 1) := by decide +kernel
theorem dX6_year_66 : decode cX6_year 66 = .ok (.lstore 5, 2) := by decide +kernel
theorem dX6_year_68 : decode cX6_year 68 = .ok (.lload 5, 2) := by decide +kernel
theorem dX6_year_70 : decode cX6_year 70 = .ok (.lload 5, 2) := by decide +kernel
theorem dX6_year_72 : decode cX6_year 72 = .ok (.lmul, 1) := by decide +kernel
theorem dX6_year_73 : decode cX6_year 73 = .ok (.ldc2_w 198, 3) := by decide +kernel
theorem dX6_year_76 : decode cX6_year 76 = .ok (.lrem, 1) := by decide +kernel
theorem dX6_year_77 : decode cX6_year 77 = .ok (.l2i, 1) := by decide +kernel
theorem dX6_year_78 : decode cX6_year 78 = .ok (.istore 7, 2) := by decide +kernel
theorem dX6_year_80 : decode cX6_year 80 = .ok (.iload 7, 2) := by decide +kernel
theorem dX6_year_82 : decode cX6_year 82 = .ok (.bipush 8, 2) := by decide +kernel
theorem dX6_year_84 : decode cX6_year 84 = .ok (.idiv, 1) := by decide +kernel
theorem dX6_year_85 : decode cX6_year 85 = .ok (.iconst 3, 1) := by decide +kernel
theorem dX6_year_86 : decode cX6_year 86 = .ok (.irem, 1) := by decide +kernel
theorem dX6_year_87 : decode cX6_year 87 = .ok (.ifCond .ne 23, 3) := by decide +kernel
theorem dX6_year_90 : decode cX6_year 90 = .ok (.aload_n 0, 1) := by decide +kernel
theorem dX6_year_91 : decode cX6_year 91 = .ok (.getfield 31, 3) := by decide +kernel
theorem dX6_year_94 : decode cX6_year 94 = .ok (.iconst 0, 1) := by decide +kernel
theorem dX6_year_95 : decode cX6_year 95 = .ok (.dup2, 1) := by decide +kernel
theorem dX6_year_96 : decode cX6_year 96 = .ok (.iaload, 1) := by decide +kernel
theorem dX6_year_97 : decode cX6_year 97 = .ok (.iconst 1, 1) := by decide +kernel
theorem dX6_year_98 : decode cX6_year 98 = .ok (.iload 7, 2) := by decide +kernel
theorem dX6_year_100 : decode cX6_year 100 = .ok (.bipush 6, 2) := by decide +kernel
theorem dX6_year_102 : decode cX6_year 102 = .ok (.irem, 1) := by decide +kernel
theorem dX6_year_103 : decode cX6_year 103 = .ok (.ishl, 1) := by decide +kernel
theorem dX6_year_104 : decode cX6_year 104 = .ok (.ixor, 1) := by decide +kernel
theorem dX6_year_105 : decode cX6_year 105 = .ok (.iastore, 1) := by decide +kernel
theorem dX6_year_106 : decode cX6_year 106 = .ok (.aload_n 0, 1) := by decide +kernel
theorem dX6_year_107 : decode cX6_year 107 = .ok (.invokevirtual 112, 3) := by decide +kernel
theorem dX6_year_110 : decode cX6_year 110 = .ok (.iload 7, 2) := by decide +kernel
theorem dX6_year_112 : decode cX6_year 112 = .ok (.bipush 64, 2) := by decide +kernel
theorem dX6_year_114 : decode cX6_year 114 = .ok (.idiv, 1) := by decide +kernel
theorem dX6_year_115 : decode cX6_year 115 = .ok (.aload_n 0, 1) := by decide +kernel
theorem dX6_year_116 : decode cX6_year 116 = .ok (.getfield 31, 3) := by decide +kernel
theorem dX6_year_119 : decode cX6_year 119 = .ok (.iconst 2, 1) := by decide +kernel
theorem dX6_year_120 : decode cX6_year 120 = .ok (.iaload, 1) := by decide +kernel
theorem dX6_year_121 : decode cX6_year 121 = .ok (.irem, 1) := by decide +kernel
theorem dX6_year_122 : decode cX6_year 122 = .ok (.istore 8, 2) := by decide +kernel
theorem dX6_year_124 : decode cX6_year 124 = .ok (.iload 7, 2) := by decide +kernel
theorem dX6_year_126 : decode cX6_year 126 = .ok (.sipush 1024, 3) := by decide +kernel
theorem dX6_year_129 : decode cX6_year 129 = .ok (.idiv, 1) := by decide +kernel
theorem dX6_year_130 : decode cX6_year 130 = .ok (.iconst 5, 1) := by decide +kernel
theorem dX6_year_131 : decode cX6_year 131 = .ok (.irem, 1) := by decide +kernel
theorem dX6_year_132 : decode cX6_year 132 = .ok (.ifCond .ne 18, 3) := by decide +kernel
theorem dX6_year_135 : decode cX6_year 135 = .ok (.aload_n 0, 1) := by decide +kernel
theorem dX6_year_136 : decode cX6_year 136 = .ok (.iload 8, 2) := by decide +kernel
theorem dX6_year_138 : decode cX6_year 138 = .ok (.invokevirtual 161, 3) := by decide +kernel
theorem dX6_year_141 : decode cX6_year 141 = .ok (.ifCond .eq 9, 3) := by decide +kernel
theorem dX6_year_144 : decode cX6_year 144 = .ok (.aload_n 0, 1) := by decide +kernel
theorem dX6_year_145 : decode cX6_year 145 = .ok (.iload 8, 2) := by decide +kernel
theorem dX6_year_147 : decode cX6_year 147 = .ok (.invokevirtual 164, 3) := by decide +kernel
theorem dX6_year_150 : decode cX6_year 150 = .ok (.aload_n 0, 1) := by decide +kernel
theorem dX6_year_151 : decode cX6_year 151 = .ok (.invokevirtual 158, 3) := by decide +kernel
theorem dX6_year_154 : decode cX6_year 154 = .ok (.iinc 4 1, 3) := by decide +kernel
theorem dX6_year_157 : decode cX6_year 157 = .ok (.goto (-113), 3) := by decide +kernel
theorem dX6_year_160 : decode cX6_year 160 = .ok (.iload_n 3, 1) := by decide +kernel
theorem dX6_year_161 : decode cX6_year 161 = .ok (.ifCond .ne 13, 3) := by decide +kernel
theorem dX6_year_164 : decode cX6_year 164 = .ok (.aload_n 0, 1) := by decide +kernel
theorem dX6_year_165 : decode cX6_year 165 = .ok (.invokevirtual 168, 3) := by decide +kernel
theorem dX6_year_168 : decode cX6_year 168 = .ok (.invokestatic 171, 3) := by decide +kernel
theorem dX6_year_171 : decode cX6_year 171 = .ok (.goto 7, 3) := by decide +kernel
theorem dX6_year_174 : decode cX6_year 174 = .ok (.aload_n 0, 1) := by decide +kernel
theorem dX6_year_175 : decode cX6_year 175 = .ok (.getfield 143, 3) := by decide +kernel
theorem dX6_year_178 : decode cX6_year 178 = .ok (.ireturn, 1) := by decide +kernel
set_option maxRecDepth 20000 in
theorem ggX6_keep_X6_copies : GoodIn wsX6_keep wsX6_copies := goodIn_r _ [7] (by decide +kernel) (by decide +kernel)
set_option maxRecDepth 20000 in
theorem gX6_keep_X6_copies : GoodIn wsX6_keep (va_wsS RX6 108 yX6_copies wsX6_copies) := goodIn_app (goodIn_of _ (by decide +kernel)) ggX6_keep_X6_copies
theorem dX6_keep_0 : decode cX6_keep 0 = .ok (.aload_n 0, 1) := by decide +kernel
theorem dX6_keep_1 : decode cX6_keep 1 = .ok (.getfield 118, 3) := by decide +kernel
theorem dX6_keep_4 : decode cX6_keep 4 = .ok (.iconst 2, 1) := by decide +kernel
theorem dX6_keep_5 : decode cX6_keep 5 = .ok (.if_icmp .ne 6, 3) := by decide +kernel
theorem dX6_keep_8 : decode cX6_keep 8 = .ok (.bipush (-3), 2) := by decide +kernel
theorem dX6_keep_10 : decode cX6_keep 10 = .ok (.ireturn, 1) := by decide +kernel
theorem dX6_keep_11 : decode cX6_keep 11 = .ok (.aload_n 0, 1) := by decide +kernel
theorem dX6_keep_12 : decode cX6_keep 12 = .ok (.getfield 16, 3) := by decide +kernel
theorem dX6_keep_15 : decode cX6_keep 15 = .ok (.bipush 49, 2) := by decide +kernel
theorem dX6_keep_17 : decode cX6_keep 17 = .ok (.aload_n 0, 1) := by decide +kernel
theorem dX6_keep_18 : decode cX6_keep 18 = .ok (.getfield 118, 3) := by decide +kernel
theorem dX6_keep_21 : decode cX6_keep 21 = .ok (.imul, 1) := by decide +kernel
theorem dX6_keep_22 : decode cX6_keep 22 = .ok (.aload_n 0, 1) := by decide +kernel
