set_option maxRecDepth 20000 in
theorem ggX5_forget_X4_clear : GoodIn wsX5_forget wsX4_clear := goodIn_r _ [7, 8, 18, 19, 20] (by decide +kernel) (by decide +kernel)
set_option maxRecDepth 20000 in
theorem gX5_forget_X4_clear : GoodIn wsX5_forget (wsV RX5 90 RX4 yX4_clear wsX4_clear) := goodIn_app (goodIn_of _ (by decide +kernel)) ggX5_forget_X4_clear
theorem dX5_forget_0 : decode cX5_forget 0 = .ok (.aload_n 0, 1) := by decide +kernel
theorem dX5_forget_1 : decode cX5_forget 1 = .ok (.getfield 49, 3) := by decide +kernel
theorem dX5_forget_4 : decode cX5_forget 4 = .ok (.getfield 210, 3) := by decide +kernel
theorem dX5_forget_7 : decode cX5_forget 7 = .ok (.istore_n 1, 1) := by decide +kernel
theorem dX5_forget_8 : decode cX5_forget 8 = .ok (.aload_n 0, 1) := by decide +kernel
theorem dX5_forget_9 : decode cX5_forget 9 = .ok (.getfield 49, 3) := by decide +kernel
theorem dX5_forget_12 : decode cX5_forget 12 = .ok (.invokevirtual 90, 3) := by decide +kernel
theorem dX5_forget_15 : decode cX5_forget 15 = .ok (.iload_n 1, 1) := by decide +kernel
theorem dX5_forget_16 : decode cX5_forget 16 = .ok (.ireturn, 1) := by decide +kernel
set_option maxRecDepth 20000 in
theorem ggX5_worlds_X5_isWithin : GoodIn wsX5_worlds wsX5_isWithin := goodIn_r _ [6] (by decide +kernel) (by decide +kernel)
set_option maxRecDepth 20000 in
theorem gX5_worlds_X5_isWithin : GoodIn wsX5_worlds (va_wsS RX5 72 yX5_isWithin wsX5_isWithin) := goodIn_app (goodIn_of _ (by decide +kernel)) ggX5_worlds_X5_isWithin
set_option maxRecDepth 20000 in
theorem ggX5_worlds_X4_worldsAsSeen : GoodIn wsX5_worlds wsX4_worldsAsSeen := goodIn_r _ [11, 12, 13, 14, 15, 16, 17, 18, 19, 20, 21, 22, 23, 24, 25, 26, 27, 28, 29, 30, 31, 32, 55, 56, 57, 58, 59, 60, 61, 62, 63, 64, 65, 66, 67, 68] (by decide +kernel) (by decide +kernel)
set_option maxRecDepth 20000 in
theorem gX5_worlds_X4_worldsAsSeen : GoodIn wsX5_worlds (wsV RX5 211 RX4 yX4_worldsAsSeen wsX4_worldsAsSeen) := goodIn_app (goodIn_of _ (by decide +kernel)) ggX5_worlds_X4_worldsAsSeen
set_option maxRecDepth 20000 in
theorem ggX5_worlds_J13_bitCount_95d88 : GoodIn wsX5_worlds wsJ13_bitCount_95d88 := goodIn_r _ [36, 37, 38, 39] (by decide +kernel) (by decide +kernel)
set_option maxRecDepth 20000 in
theorem gX5_worlds_J13_bitCount_95d88 : GoodIn wsX5_worlds (va_wsS RX5 215 yJ13_bitCount_95d88 wsJ13_bitCount_95d88) := goodIn_app (goodIn_of _ (by decide +kernel)) ggX5_worlds_J13_bitCount_95d88
set_option maxRecDepth 20000 in
theorem ggX5_worlds_X5_lowestWorld : GoodIn wsX5_worlds wsX5_lowestWorld := goodIn_r _ [42, 43, 44, 5, 45] (by decide +kernel) (by decide +kernel)
set_option maxRecDepth 20000 in
theorem gX5_worlds_X5_lowestWorld : GoodIn wsX5_worlds (va_wsS RX5 221 yX5_lowestWorld wsX5_lowestWorld) := goodIn_app (goodIn_of _ (by decide +kernel)) ggX5_worlds_X5_lowestWorld
theorem dX5_worlds_0 : decode cX5_worlds 0 = .ok (.iload_n 1, 1) := by decide +kernel
theorem dX5_worlds_1 : decode cX5_worlds 1 = .ok (.iconst 0, 1) := by decide +kernel
theorem dX5_worlds_2 : decode cX5_worlds 2 = .ok (.iconst 1, 1) := by decide +kernel
theorem dX5_worlds_3 : decode cX5_worlds 3 = .ok (.invokestatic 72, 3) := by decide +kernel
theorem dX5_worlds_6 : decode cX5_worlds 6 = .ok (.ifCond .ne 5, 3) := by decide +kernel
theorem dX5_worlds_9 : decode cX5_worlds 9 = .ok (.iconst (-1), 1) := by decide +kernel
theorem dX5_worlds_10 : decode cX5_worlds 10 = .ok (.ireturn, 1) := by decide +kernel
theorem dX5_worlds_11 : decode cX5_worlds 11 = .ok (.aload_n 0, 1) := by decide +kernel
theorem dX5_worlds_12 : decode cX5_worlds 12 = .ok (.getfield 49, 3) := by decide +kernel
theorem dX5_worlds_15 : decode cX5_worlds 15 = .ok (.aload_n 0, 1) := by decide +kernel
theorem dX5_worlds_16 : decode cX5_worlds 16 = .ok (.getfield 24, 3) := by decide +kernel
theorem dX5_worlds_19 : decode cX5_worlds 19 = .ok (.invokevirtual 211, 3) := by decide +kernel
theorem dX5_worlds_22 : decode cX5_worlds 22 = .ok (.lstore_n 2, 1) := by decide +kernel
theorem dX5_worlds_23 : decode cX5_worlds 23 = .ok (.iload_n 1, 1) := by decide +kernel
theorem dX5_worlds_24 : decode cX5_worlds 24 = .ok (.ifCond .ne 10, 3) := by decide +kernel
theorem dX5_worlds_27 : decode cX5_worlds 27 = .ok (.lload_n 2, 1) := by decide +kernel
theorem dX5_worlds_28 : decode cX5_worlds 28 = .ok (.invokestatic 215, 3) := by decide +kernel
theorem dX5_worlds_31 : decode cX5_worlds 31 = .ok (.goto 7, 3) := by decide +kernel
theorem dX5_worlds_34 : decode cX5_worlds 34 = .ok (.lload_n 2, 1) := by decide +kernel
theorem dX5_worlds_35 : decode cX5_worlds 35 = .ok (.invokestatic 221, 3) := by decide +kernel
theorem dX5_worlds_38 : decode cX5_worlds 38 = .ok (.ireturn, 1) := by decide +kernel
set_option maxRecDepth 20000 in
theorem ggX5_must_X5_isFact : GoodIn wsX5_must wsX5_isFact := goodIn_r _ [6, 7, 8, 5, 9] (by decide +kernel) (by decide +kernel)
set_option maxRecDepth 20000 in
theorem gX5_must_X5_isFact : GoodIn wsX5_must (va_wsS RX5 128 yX5_isFact wsX5_isFact) := goodIn_app (goodIn_of _ (by decide +kernel)) ggX5_must_X5_isFact
set_option maxRecDepth 20000 in
theorem ggX5_must_X4_worldsAsSeen : GoodIn wsX5_must wsX4_worldsAsSeen := goodIn_r _ [14, 15, 16, 17, 18, 19, 20, 21, 22, 23, 24, 25, 26, 27, 28, 29, 30, 31, 32, 33, 34, 35, 50, 51, 52, 53, 54, 55, 56, 57, 58, 59, 60, 61, 62, 63] (by decide +kernel) (by decide +kernel)
set_option maxRecDepth 20000 in
theorem gX5_must_X4_worldsAsSeen : GoodIn wsX5_must (wsV RX5 211 RX4 yX4_worldsAsSeen wsX4_worldsAsSeen) := goodIn_app (goodIn_of _ (by decide +kernel)) ggX5_must_X4_worldsAsSeen
set_option maxRecDepth 20000 in
theorem ggX5_must_X5_worldsOfLiteral : GoodIn wsX5_must wsX5_worldsOfLiteral := goodIn_r _ [38, 39, 40] (by decide +kernel) (by decide +kernel)
set_option maxRecDepth 20000 in
theorem gX5_must_X5_worldsOfLiteral : GoodIn wsX5_must (va_wsS RX5 224 yX5_worldsOfLiteral wsX5_worldsOfLiteral) := goodIn_app (goodIn_of _ (by decide +kernel)) ggX5_must_X5_worldsOfLiteral
theorem dX5_must_0 : decode cX5_must 0 = .ok (.iload_n 1, 1) := by decide +kernel
theorem dX5_must_1 : decode cX5_must 1 = .ok (.invokestatic 128, 3) := by decide +kernel
theorem dX5_must_4 : decode cX5_must 4 = .ok (.ifCond .ne 5, 3) := by decide +kernel
theorem dX5_must_7 : decode cX5_must 7 = .ok (.iconst (-1), 1) := by decide +kernel
theorem dX5_must_8 : decode cX5_must 8 = .ok (.ireturn, 1) := by decide +kernel
theorem dX5_must_9 : decode cX5_must 9 = .ok (.aload_n 0, 1) := by decide +kernel
theorem dX5_must_10 : decode cX5_must 10 = .ok (.getfield 49, 3) := by decide +kernel
theorem dX5_must_13 : decode cX5_must 13 = .ok (.aload_n 0, 1) := by decide +kernel
theorem dX5_must_14 : decode cX5_must 14 = .ok (.getfield 24, 3) := by decide +kernel
theorem dX5_must_17 : decode cX5_must 17 = .ok (.invokevirtual 211, 3) := by decide +kernel
theorem dX5_must_20 : decode cX5_must 20 = .ok (.lstore_n 2, 1) := by decide +kernel
theorem dX5_must_21 : decode cX5_must 21 = .ok (.lload_n 2, 1) := by decide +kernel
theorem dX5_must_22 : decode cX5_must 22 = .ok (.lconst 0, 1) := by decide +kernel
theorem dX5_must_23 : decode cX5_must 23 = .ok (.lcmp, 1) := by decide +kernel
theorem dX5_must_24 : decode cX5_must 24 = .ok (.ifCond .ne 6, 3) := by decide +kernel
theorem dX5_must_27 : decode cX5_must 27 = .ok (.bipush (-4), 2) := by decide +kernel
theorem dX5_must_29 : decode cX5_must 29 = .ok (.ireturn, 1) := by decide +kernel
theorem dX5_must_30 : decode cX5_must 30 = .ok (.lload_n 2, 1) := by decide +kernel
theorem dX5_must_31 : decode cX5_must 31 = .ok (.iload_n 1, 1) := by decide +kernel
theorem dX5_must_32 : decode cX5_must 32 = .ok (.invokestatic 224, 3) := by decide +kernel
theorem dX5_must_35 : decode cX5_must 35 = .ok (.land, 1) := by decide +kernel
theorem dX5_must_36 : decode cX5_must 36 = .ok (.lstore 4, 2) := by decide +kernel
theorem dX5_must_38 : decode cX5_must 38 = .ok (.lload 4, 2) := by decide +kernel
theorem dX5_must_40 : decode cX5_must 40 = .ok (.lload_n 2, 1) := by decide +kernel
theorem dX5_must_41 : decode cX5_must 41 = .ok (.lcmp, 1) := by decide +kernel
theorem dX5_must_42 : decode cX5_must 42 = .ok (.ifCond .ne 5, 3) := by decide +kernel
theorem dX5_must_45 : decode cX5_must 45 = .ok (.iconst 1, 1) := by decide +kernel
theorem dX5_must_46 : decode cX5_must 46 = .ok (.ireturn, 1) := by decide +kernel
theorem dX5_must_47 : decode cX5_must 47 = .ok (.lload 4, 2) := by decide +kernel
theorem dX5_must_49 : decode cX5_must 49 = .ok (.lconst 0, 1) := by decide +kernel
theorem dX5_must_50 : decode cX5_must 50 = .ok (.lcmp, 1) := by decide +kernel
theorem dX5_must_51 : decode cX5_must 51 = .ok (.ifCond .ne 7, 3) := by decide +kernel
theorem dX5_must_54 : decode cX5_must 54 = .ok (.iconst 0, 1) := by decide +kernel
theorem dX5_must_55 : decode cX5_must 55 = .ok (.goto 4, 3) := by decide +kernel
theorem dX5_must_58 : decode cX5_must 58 = .ok (.iconst 2, 1) := by decide +kernel
theorem dX5_must_59 : decode cX5_must 59 = .ok (.ireturn, 1) := by decide +kernel
set_option maxRecDepth 20000 in
theorem ggX5_liars_X5_isWithin : GoodIn wsX5_liars wsX5_isWithin := goodIn_r _ [6] (by decide +kernel) (by decide +kernel)
set_option maxRecDepth 20000 in
theorem gX5_liars_X5_isWithin : GoodIn wsX5_liars (va_wsS RX5 72 yX5_isWithin wsX5_isWithin) := goodIn_app (goodIn_of _ (by decide +kernel)) ggX5_liars_X5_isWithin
set_option maxRecDepth 20000 in
theorem ggX5_liars_X4_worldsAsSeen : GoodIn wsX5_liars wsX4_worldsAsSeen := goodIn_r _ [11, 12, 13, 14, 15, 16, 17, 18, 19, 20, 21, 22, 23, 24, 25, 26, 27, 28, 29, 30, 31, 32, 67, 68, 69, 70, 71, 72, 73, 74, 75, 76, 77, 78, 79, 80] (by decide +kernel) (by decide +kernel)
set_option maxRecDepth 20000 in
theorem gX5_liars_X4_worldsAsSeen : GoodIn wsX5_liars (wsV RX5 211 RX4 yX4_worldsAsSeen wsX4_worldsAsSeen) := goodIn_app (goodIn_of _ (by decide +kernel)) ggX5_liars_X4_worldsAsSeen
set_option maxRecDepth 20000 in
theorem ggX5_liars_X0_liarsIn : GoodIn wsX5_liars wsX0_liarsIn := goodIn_r _ [36, 27, 37, 38, 39, 40, 19, 41, 28, 29, 30, 31, 32, 42, 43, 44, 45, 21, 23, 24, 25, 26, 46, 5, 47, 48, 49, 50, 51, 52, 53, 54, 55, 56, 70, 71, 72, 73, 74, 75, 76, 77, 78, 79, 80] (by decide +kernel) (by decide +kernel)
set_option maxRecDepth 20000 in
theorem gX5_liars_X0_liarsIn : GoodIn wsX5_liars (wsV RX5 228 RX0 yX0_liarsIn wsX0_liarsIn) := goodIn_app (goodIn_of _ (by decide +kernel)) ggX5_liars_X0_liarsIn
set_option maxRecDepth 20000 in
theorem ggX5_liars_X5_isAmong : GoodIn wsX5_liars wsX5_isAmong := goodIn_r _ [47] (by decide +kernel) (by decide +kernel)
set_option maxRecDepth 20000 in
theorem gX5_liars_X5_isAmong : GoodIn wsX5_liars (va_wsS RX5 231 yX5_isAmong wsX5_isAmong) := goodIn_app (goodIn_of _ (by decide +kernel)) ggX5_liars_X5_isAmong
theorem dX5_liars_0 : decode cX5_liars 0 = .ok (.iload_n 1, 1) := by decide +kernel
theorem dX5_liars_1 : decode cX5_liars 1 = .ok (.iconst 0, 1) := by decide +kernel
theorem dX5_liars_2 : decode cX5_liars 2 = .ok (.iconst 1, 1) := by decide +kernel
theorem dX5_liars_3 : decode cX5_liars 3 = .ok (.invokestatic 72, 3) := by decide +kernel
theorem dX5_liars_6 : decode cX5_liars 6 = .ok (.ifCond .ne 5, 3) := by decide +kernel
theorem dX5_liars_9 : decode cX5_liars 9 = .ok (.iconst (-1), 1) := by decide +kernel
theorem dX5_liars_10 : decode cX5_liars 10 = .ok (.ireturn, 1) := by decide +kernel
theorem dX5_liars_11 : decode cX5_liars 11 = .ok (.aload_n 0, 1) := by decide +kernel
theorem dX5_liars_12 : decode cX5_liars 12 = .ok (.getfield 49, 3) := by decide +kernel
theorem dX5_liars_15 : decode cX5_liars 15 = .ok (.aload_n 0, 1) := by decide +kernel
theorem dX5_liars_16 : decode cX5_liars 16 = .ok (.getfield 24, 3) := by decide +kernel
theorem dX5_liars_19 : decode cX5_liars 19 = .ok (.invokevirtual 211, 3) := by decide +kernel
theorem dX5_liars_22 : decode cX5_liars 22 = .ok (.lstore_n 2, 1) := by decide +kernel
theorem dX5_liars_23 : decode cX5_liars 23 = .ok (.bipush 7, 2) := by decide +kernel
theorem dX5_liars_25 : decode cX5_liars 25 = .ok (.istore 4, 2) := by decide +kernel
theorem dX5_liars_27 : decode cX5_liars 27 = .ok (.bipush (-4), 2) := by decide +kernel
theorem dX5_liars_29 : decode cX5_liars 29 = .ok (.istore 5, 2) := by decide +kernel
theorem dX5_liars_31 : decode cX5_liars 31 = .ok (.iconst 0, 1) := by decide +kernel
theorem dX5_liars_32 : decode cX5_liars 32 = .ok (.istore 6, 2) := by decide +kernel
theorem dX5_liars_34 : decode cX5_liars 34 = .ok (.iload 6, 2) := by decide +kernel
theorem dX5_liars_36 : decode cX5_liars 36 = .ok (.bipush 64, 2) := by decide +kernel
theorem dX5_liars_38 : decode cX5_liars 38 = .ok (.if_icmp .ge 44, 3) := by decide +kernel
theorem dX5_liars_41 : decode cX5_liars 41 = .ok (.aload_n 0, 1) := by decide +kernel
theorem dX5_liars_42 : decode cX5_liars 42 = .ok (.getfield 24, 3) := by decide +kernel
theorem dX5_liars_45 : decode cX5_liars 45 = .ok (.iload 6, 2) := by decide +kernel
theorem dX5_liars_47 : decode cX5_liars 47 = .ok (.invokevirtual 228, 3) := by decide +kernel
theorem dX5_liars_50 : decode cX5_liars 50 = .ok (.istore 7, 2) := by decide +kernel
theorem dX5_liars_52 : decode cX5_liars 52 = .ok (.lload_n 2, 1) := by decide +kernel
theorem dX5_liars_53 : decode cX5_liars 53 = .ok (.iload 6, 2) := by decide +kernel
theorem dX5_liars_55 : decode cX5_liars 55 = .ok (.invokestatic 231, 3) := by decide +kernel
theorem dX5_liars_58 : decode cX5_liars 58 = .ok (.ifCond .eq 18, 3) := by decide +kernel
theorem dX5_liars_61 : decode cX5_liars 61 = .ok (.iload 7, 2) := by decide +kernel
theorem dX5_liars_63 : decode cX5_liars 63 = .ok (.iload 4, 2) := by decide +kernel
theorem dX5_liars_65 : decode cX5_liars 65 = .ok (.if_icmp .ge 11, 3) := by decide +kernel
theorem dX5_liars_68 : decode cX5_liars 68 = .ok (.iload 7, 2) := by decide +kernel
theorem dX5_liars_70 : decode cX5_liars 70 = .ok (.istore 4, 2) := by decide +kernel
theorem dX5_liars_72 : decode cX5_liars 72 = .ok (.iload 6, 2) := by decide +kernel
theorem dX5_liars_74 : decode cX5_liars 74 = .ok (.istore 5, 2) := by decide +kernel
theorem dX5_liars_76 : decode cX5_liars 76 = .ok (.iinc 6 1, 3) := by decide +kernel
theorem dX5_liars_79 : decode cX5_liars 79 = .ok (.goto (-45), 3) := by decide +kernel
theorem dX5_liars_82 : decode cX5_liars 82 = .ok (.iload 5, 2) := by decide +kernel
theorem dX5_liars_84 : decode cX5_liars 84 = .ok (.bipush (-4), 2) := by decide +kernel
theorem dX5_liars_86 : decode cX5_liars 86 = .ok (.if_icmp .ne 6, 3) := by decide +kernel
theorem dX5_liars_89 : decode cX5_liars 89 = .ok (.bipush (-4), 2) := by decide +kernel
theorem dX5_liars_91 : decode cX5_liars 91 = .ok (.ireturn, 1) := by decide +kernel
theorem dX5_liars_92 : decode cX5_liars 92 = .ok (.iload_n 1, 1) := by decide +kernel
theorem dX5_liars_93 : decode cX5_liars 93 = .ok (.ifCond .ne 8, 3) := by decide +kernel
theorem dX5_liars_96 : decode cX5_liars 96 = .ok (.iload 4, 2) := by decide +kernel
theorem dX5_liars_98 : decode cX5_liars 98 = .ok (.goto 5, 3) := by decide +kernel
theorem dX5_liars_101 : decode cX5_liars 101 = .ok (.iload 5, 2) := by decide +kernel
theorem dX5_liars_103 : decode cX5_liars 103 = .ok (.ireturn, 1) := by decide +kernel
set_option maxRecDepth 20000 in
theorem ggX5_chance_X5_isWithin : GoodIn wsX5_chance wsX5_isWithin := goodIn_r _ [6] (by decide +kernel) (by decide +kernel)
set_option maxRecDepth 20000 in
theorem gX5_chance_X5_isWithin : GoodIn wsX5_chance (va_wsS RX5 72 yX5_isWithin wsX5_isWithin) := goodIn_app (goodIn_of _ (by decide +kernel)) ggX5_chance_X5_isWithin
set_option maxRecDepth 20000 in
theorem ggX5_chance_X0_liesIn : GoodIn wsX5_chance wsX0_liesIn := goodIn_r _ [11, 12, 13, 14, 15, 10, 16, 17, 18, 19, 20, 21, 22, 23, 24, 25, 26, 27, 5, 28, 54, 55, 56, 57, 58, 59, 60, 61, 62, 63, 64] (by decide +kernel) (by decide +kernel)
set_option maxRecDepth 20000 in
theorem gX5_chance_X0_liesIn : GoodIn wsX5_chance (wsV RX5 171 RX0 yX0_liesIn wsX0_liesIn) := goodIn_app (goodIn_of _ (by decide +kernel)) ggX5_chance_X0_liesIn
set_option maxRecDepth 20000 in
theorem ggX5_chance_J6_bitCount_0f7a4 : GoodIn wsX5_chance wsJ6_bitCount_0f7a4 := goodIn_r _ [32, 33, 34, 35] (by decide +kernel) (by decide +kernel)
set_option maxRecDepth 20000 in
theorem gX5_chance_J6_bitCount_0f7a4 : GoodIn wsX5_chance (va_wsS RX5 235 yJ6_bitCount_0f7a4 wsJ6_bitCount_0f7a4) := goodIn_app (goodIn_of _ (by decide +kernel)) ggX5_chance_J6_bitCount_0f7a4
set_option maxRecDepth 20000 in
theorem ggX5_chance_X5_waysToTurn : GoodIn wsX5_chance wsX5_waysToTurn := goodIn_r _ [38, 29, 30, 31, 32, 33, 34, 35, 39, 40, 5, 41] (by decide +kernel) (by decide +kernel)
set_option maxRecDepth 20000 in
theorem gX5_chance_X5_waysToTurn : GoodIn wsX5_chance (va_wsS RX5 239 yX5_waysToTurn wsX5_waysToTurn) := goodIn_app (goodIn_of _ (by decide +kernel)) ggX5_chance_X5_waysToTurn
set_option maxRecDepth 20000 in
theorem ggX5_chance_X5_power : GoodIn wsX5_chance wsX5_power := goodIn_r _ [41] (by decide +kernel) (by decide +kernel)
set_option maxRecDepth 20000 in
theorem gX5_chance_X5_power : GoodIn wsX5_chance (va_wsS RX5 243 yX5_power wsX5_power) := goodIn_app (goodIn_of _ (by decide +kernel)) ggX5_chance_X5_power
set_option maxRecDepth 20000 in
theorem ggX5_chance_X5_commonDivisor : GoodIn wsX5_chance wsX5_commonDivisor := goodIn_r _ [44] (by decide +kernel) (by decide +kernel)
set_option maxRecDepth 20000 in
theorem gX5_chance_X5_commonDivisor : GoodIn wsX5_chance (va_wsS RX5 246 yX5_commonDivisor wsX5_commonDivisor) := goodIn_app (goodIn_of _ (by decide +kernel)) ggX5_chance_X5_commonDivisor
theorem dX5_chance_0 : decode cX5_chance 0 = .ok (.iload_n 1, 1) := by decide +kernel
theorem dX5_chance_1 : decode cX5_chance 1 = .ok (.iconst 0, 1) := by decide +kernel
theorem dX5_chance_2 : decode cX5_chance 2 = .ok (.bipush 9, 2) := by decide +kernel
theorem dX5_chance_4 : decode cX5_chance 4 = .ok (.invokestatic 72, 3) := by decide +kernel
theorem dX5_chance_7 : decode cX5_chance 7 = .ok (.ifCond .eq 22, 3) := by decide +kernel
theorem dX5_chance_10 : decode cX5_chance 10 = .ok (.iload_n 2, 1) := by decide +kernel
theorem dX5_chance_11 : decode cX5_chance 11 = .ok (.iconst 0, 1) := by decide +kernel
theorem dX5_chance_12 : decode cX5_chance 12 = .ok (.bipush 10, 2) := by decide +kernel
theorem dX5_chance_14 : decode cX5_chance 14 = .ok (.invokestatic 72, 3) := by decide +kernel
theorem dX5_chance_17 : decode cX5_chance 17 = .ok (.ifCond .eq 12, 3) := by decide +kernel
theorem dX5_chance_20 : decode cX5_chance 20 = .ok (.iload_n 3, 1) := by decide +kernel
theorem dX5_chance_21 : decode cX5_chance 21 = .ok (.iconst 0, 1) := by decide +kernel
theorem dX5_chance_22 : decode cX5_chance 22 = .ok (.iconst 1, 1) := by decide +kernel
theorem dX5_chance_23 : decode cX5_chance 23 = .ok (.invokestatic 72, 3) := by decide +kernel
theorem dX5_chance_26 : decode cX5_chance 26 = .ok (.ifCond .ne 5, 3) := by decide +kernel
theorem dX5_chance_29 : decode cX5_chance 29 = .ok (.iconst (-1), 1) := by decide +kernel
theorem dX5_chance_30 : decode cX5_chance 30 = .ok (.ireturn, 1) := by decide +kernel
theorem dX5_chance_31 : decode cX5_chance 31 = .ok (.iconst 0, 1) := by decide +kernel
theorem dX5_chance_32 : decode cX5_chance 32 = .ok (.istore 4, 2) := by decide +kernel
theorem dX5_chance_34 : decode cX5_chance 34 = .ok (.iconst 0, 1) := by decide +kernel
theorem dX5_chance_35 : decode cX5_chance 35 = .ok (.istore 5, 2) := by decide +kernel
theorem dX5_chance_37 : decode cX5_chance 37 = .ok (.iload 5, 2) := by decide +kernel
theorem dX5_chance_39 : decode cX5_chance 39 = .ok (.bipush 64, 2) := by decide +kernel
theorem dX5_chance_41 : decode cX5_chance 41 = .ok (.if_icmp .ge 44, 3) := by decide +kernel
theorem dX5_chance_44 : decode cX5_chance 44 = .ok (.aload_n 0, 1) := by decide +kernel
theorem dX5_chance_45 : decode cX5_chance 45 = .ok (.getfield 24, 3) := by decide +kernel
theorem dX5_chance_48 : decode cX5_chance 48 = .ok (.aload_n 0, 1) := by decide +kernel
theorem dX5_chance_49 : decode cX5_chance 49 = .ok (.getfield 24, 3) := by decide +kernel
theorem dX5_chance_52 : decode cX5_chance 52 = .ok (.getfield 108, 3) := by decide +kernel
theorem dX5_chance_55 : decode cX5_chance 55 = .ok (.iload 5, 2) := by decide +kernel
theorem dX5_chance_57 : decode cX5_chance 57 = .ok (.ixor, 1) := by decide +kernel
theorem dX5_chance_58 : decode cX5_chance 58 = .ok (.invokevirtual 171, 3) := by decide +kernel
theorem dX5_chance_61 : decode cX5_chance 61 = .ok (.invokestatic 235, 3) := by decide +kernel
theorem dX5_chance_64 : decode cX5_chance 64 = .ok (.iload_n 1, 1) := by decide +kernel
theorem dX5_chance_65 : decode cX5_chance 65 = .ok (.if_icmp .lt 14, 3) := by decide +kernel
theorem dX5_chance_68 : decode cX5_chance 68 = .ok (.iload 4, 2) := by decide +kernel
theorem dX5_chance_70 : decode cX5_chance 70 = .ok (.iload 5, 2) := by decide +kernel
theorem dX5_chance_72 : decode cX5_chance 72 = .ok (.iload_n 2, 1) := by decide +kernel
theorem dX5_chance_73 : decode cX5_chance 73 = .ok (.invokestatic 239, 3) := by decide +kernel
theorem dX5_chance_76 : decode cX5_chance 76 = .ok (.iadd, 1) := by decide +kernel
theorem dX5_chance_77 : decode cX5_chance 77 = .ok (.istore 4, 2) := by decide +kernel
theorem dX5_chance_79 : decode cX5_chance 79 = .ok (.iinc 5 1, 3) := by decide +kernel
theorem dX5_chance_82 : decode cX5_chance 82 = .ok (.goto (-45), 3) := by decide +kernel
theorem dX5_chance_85 : decode cX5_chance 85 = .ok (.bipush 10, 2) := by decide +kernel
theorem dX5_chance_87 : decode cX5_chance 87 = .ok (.bipush 6, 2) := by decide +kernel
theorem dX5_chance_89 : decode cX5_chance 89 = .ok (.invokestatic 243, 3) := by decide +kernel
theorem dX5_chance_92 : decode cX5_chance 92 = .ok (.istore 5, 2) := by decide +kernel
theorem dX5_chance_94 : decode cX5_chance 94 = .ok (.iload 4, 2) := by decide +kernel
theorem dX5_chance_96 : decode cX5_chance 96 = .ok (.iload 5, 2) := by decide +kernel
theorem dX5_chance_98 : decode cX5_chance 98 = .ok (.invokestatic 246, 3) := by decide +kernel
theorem dX5_chance_101 : decode cX5_chance 101 = .ok (.istore 6, 2) := by decide +kernel
theorem dX5_chance_103 : decode cX5_chance 103 = .ok (.iload 6, 2) := by decide +kernel
theorem dX5_chance_105 : decode cX5_chance 105 = .ok (.ifCond .ne 6, 3) := by decide +kernel
theorem dX5_chance_108 : decode cX5_chance 108 = .ok (.bipush (-4), 2) := by decide +kernel
theorem dX5_chance_110 : decode cX5_chance 110 = .ok (.ireturn, 1) := by decide +kernel
theorem dX5_chance_111 : decode cX5_chance 111 = .ok (.iload_n 3, 1) := by decide +kernel
theorem dX5_chance_112 : decode cX5_chance 112 = .ok (.ifCond .ne 11, 3) := by decide +kernel
theorem dX5_chance_115 : decode cX5_chance 115 = .ok (.iload 4, 2) := by decide +kernel
theorem dX5_chance_117 : decode cX5_chance 117 = .ok (.iload 6, 2) := by decide +kernel
theorem dX5_chance_119 : decode cX5_chance 119 = .ok (.idiv, 1) := by decide +kernel
theorem dX5_chance_120 : decode cX5_chance 120 = .ok (.goto 8, 3) := by decide +kernel
theorem dX5_chance_123 : decode cX5_chance 123 = .ok (.iload 5, 2) := by decide +kernel
theorem dX5_chance_125 : decode cX5_chance 125 = .ok (.iload 6, 2) := by decide +kernel
theorem dX5_chance_127 : decode cX5_chance 127 = .ok (.idiv, 1) := by decide +kernel
theorem dX5_chance_128 : decode cX5_chance 128 = .ok (.ireturn, 1) := by decide +kernel
set_option maxRecDepth 20000 in
theorem ggX5_year_X5_isWithin : GoodIn wsX5_year wsX5_isWithin := goodIn_r _ [6] (by decide +kernel) (by decide +kernel)
set_option maxRecDepth 20000 in
theorem gX5_year_X5_isWithin : GoodIn wsX5_year (va_wsS RX5 72 yX5_isWithin wsX5_isWithin) := goodIn_app (goodIn_of _ (by decide +kernel)) ggX5_year_X5_isWithin
set_option maxRecDepth 20000 in
theorem ggX5_year_X0_copy : GoodIn wsX5_year wsX0_copy := goodIn_r _ [11, 12, 13, 14, 15, 16, 17, 18, 19, 20, 21, 22, 109, 110, 111, 112, 113, 114, 115, 116, 117, 118, 119] (by decide +kernel) (by decide +kernel)
set_option maxRecDepth 20000 in
theorem gX5_year_X0_copy : GoodIn wsX5_year (wsV RX5 83 RX0 yX0_copy wsX0_copy) := goodIn_app (goodIn_of _ (by decide +kernel)) ggX5_year_X0_copy
set_option maxRecDepth 20000 in
theorem ggX5_year_X5_draw : GoodIn wsX5_year wsX5_draw := goodIn_r _ [25, 26, 27, 28] (by decide +kernel) (by decide +kernel)
set_option maxRecDepth 20000 in
theorem gX5_year_X5_draw : GoodIn wsX5_year (va_wsS RX5 249 yX5_draw wsX5_draw) := goodIn_app (goodIn_of _ (by decide +kernel)) ggX5_year_X5_draw
set_option maxRecDepth 20000 in
theorem ggX5_year_X0_takeDraw : GoodIn wsX5_year wsX0_takeDraw := goodIn_r _ [32, 13, 33, 34, 35, 10, 36, 12, 21, 37, 5, 38, 3, 4, 6, 39, 40, 41, 42, 43, 44, 45, 46, 22, 47, 48, 49, 50, 14, 51, 52, 53, 54, 55, 56, 57, 58, 59, 60, 16, 61, 62, 63, 64, 109, 110, 111, 112, 113, 114, 115, 116, 117, 118, 119] (by decide +kernel) (by decide +kernel)
set_option maxRecDepth 20000 in
theorem gX5_year_X0_takeDraw : GoodIn wsX5_year (wsV RX5 252 RX0 yX0_takeDraw wsX0_takeDraw) := goodIn_app (goodIn_of _ (by decide +kernel)) ggX5_year_X0_takeDraw
set_option maxRecDepth 20000 in
theorem ggX5_year_X0_passDay : GoodIn wsX5_year wsX0_passDay := goodIn_r _ [68, 13, 69, 70, 71, 10, 72, 15, 21, 39, 40, 41, 42, 43, 44, 45, 46, 22, 12, 47, 48, 49, 50, 14, 51, 5, 52, 73, 74, 75, 76, 57, 58, 59, 60, 16, 77, 78, 79, 80, 61, 62, 63, 64, 109, 110, 111, 112, 113, 114, 115, 116, 117, 118, 119] (by decide +kernel) (by decide +kernel)
set_option maxRecDepth 20000 in
theorem gX5_year_X0_passDay : GoodIn wsX5_year (wsV RX5 137 RX0 yX0_passDay wsX0_passDay) := goodIn_app (goodIn_of _ (by decide +kernel)) ggX5_year_X0_passDay
set_option maxRecDepth 20000 in
theorem ggX5_year_X0_policemen : GoodIn wsX5_year wsX0_policemen := goodIn_r _ [84, 12, 85, 86, 87, 10, 88, 13, 47, 48, 49, 50, 14, 89, 90, 91, 92, 22, 39, 40, 41, 42, 51, 5, 52, 93, 94, 95, 96, 97, 98, 99, 109, 110, 111, 112, 113, 114, 115, 116, 117, 118, 119] (by decide +kernel) (by decide +kernel)
set_option maxRecDepth 20000 in
theorem gX5_year_X0_policemen : GoodIn wsX5_year (wsV RX5 158 RX0 yX0_policemen wsX0_policemen) := goodIn_app (goodIn_of _ (by decide +kernel)) ggX5_year_X0_policemen
theorem dX5_year_0 : decode cX5_year 0 = .ok (.iload_n 1, 1) := by decide +kernel
theorem dX5_year_1 : decode cX5_year 1 = .ok (.iconst 0, 1) := by decide +kernel
theorem dX5_year_2 : decode cX5_year 2 = .ok (.sipush 9999, 3) := by decide +kernel
theorem dX5_year_5 : decode cX5_year 5 = .ok (.invokestatic 72, 3) := by decide +kernel
theorem dX5_year_8 : decode cX5_year 8 = .ok (.ifCond .eq 22, 3) := by decide +kernel
theorem dX5_year_11 : decode cX5_year 11 = .ok (.iload_n 2, 1) := by decide +kernel
theorem dX5_year_12 : decode cX5_year 12 = .ok (.iconst 1, 1) := by decide +kernel
theorem dX5_year_13 : decode cX5_year 13 = .ok (.bipush 60, 2) := by decide +kernel
theorem dX5_year_15 : decode cX5_year 15 = .ok (.invokestatic 72, 3) := by decide +kernel
theorem dX5_year_18 : decode cX5_year 18 = .ok (.ifCond .eq 12, 3) := by decide +kernel
theorem dX5_year_21 : decode cX5_year 21 = .ok (.iload_n 3, 1) := by decide +kernel
theorem dX5_year_22 : decode cX5_year 22 = .ok (.iconst 0, 1) := by decide +kernel
theorem dX5_year_23 : decode cX5_year 23 = .ok (.iconst 1, 1) := by decide +kernel
theorem dX5_year_24 : decode cX5_year 24 = .ok (.invokestatic 72, 3) := by decide +kernel
theorem dX5_year_27 : decode cX5_year 27 = .ok (.ifCond .ne 5, 3) := by decide +kernel
theorem dX5_year_30 : decode cX5_year 30 = .ok (.iconst (-1), 1) := by decide +kernel
theorem dX5_year_31 : decode cX5_year 31 = .ok (.ireturn, 1) := by decide +kernel
theorem dX5_year_32 : decode cX5_year 32 = .ok (.aload_n 0, 1) := by decide +kernel
theorem dX5_year_33 : decode cX5_year 33 = .ok (.getfield 31, 3) := by decide +kernel
theorem dX5_year_36 : decode cX5_year 36 = .ok (.aload_n 0, 1) := by decide +kernel
theorem dX5_year_37 : decode cX5_year 37 = .ok (.getfield 24, 3) := by decide +kernel
theorem dX5_year_40 : decode cX5_year 40 = .ok (.invokevirtual 83, 3) := by decide +kernel
theorem dX5_year_43 : decode cX5_year 43 = .ok (.iconst 0, 1) := by decide +kernel
theorem dX5_year_44 : decode cX5_year 44 = .ok (.istore 4, 2) := by decide +kernel
theorem dX5_year_46 : decode cX5_year 46 = .ok (.iconst 0, 1) := by decide +kernel
theorem dX5_year_47 : decode cX5_year 47 = .ok (.istore 5, 2) := by decide +kernel
theorem dX5_year_49 : decode cX5_year 49 = .ok (.iload 5, 2) := by decide +kernel
theorem dX5_year_51 : decode cX5_year 51 = .ok (.iload_n 2, 1) := by decide +kernel
theorem dX5_year_52 : decode cX5_year 52 = .ok (.if_icmp .ge 34, 3) := by decide +kernel
theorem dX5_year_55 : decode cX5_year 55 = .ok (.aload_n 0, 1) := by decide +kernel
theorem dX5_year_56 : decode cX5_year 56 = .ok (.getfield 31, 3) := by decide +kernel
theorem dX5_year_59 : decode cX5_year 59 = .ok (.iload_n 1, 1) := by decide +kernel
theorem dX5_year_60 : decode cX5_year 60 = .ok (.iload 5, 2) := by decide +kernel
theorem dX5_year_62 : decode cX5_year 62 = .ok (.invokestatic 249, 3) := by decide +kernel
theorem dX5_year_65 : decode cX5_year 65 = .ok (.invokevirtual 252, 3) := by decide +kernel
theorem dX5_year_68 : decode cX5_year 68 = .ok (.iload 4, 2) := by decide +kernel
theorem dX5_year_70 : decode cX5_year 70 = .ok (.aload_n 0, 1) := by decide +kernel
theorem dX5_year_71 : decode cX5_year 71 = .ok (.getfield 31, 3) := by decide +kernel
theorem dX5_year_74 : decode cX5_year 74 = .ok (.invokevirtual 137, 3) := by decide +kernel
theorem dX5_year_77 : decode cX5_year 77 = .ok (.iadd, 1) := by decide +kernel
theorem dX5_year_78 : decode cX5_year 78 = .ok (.istore 4, 2) := by decide +kernel
theorem dX5_year_80 : decode cX5_year 80 = .ok (.iinc 5 1, 3) := by decide +kernel
theorem dX5_year_83 : decode cX5_year 83 = .ok (.goto (-34), 3) := by decide +kernel
theorem dX5_year_86 : decode cX5_year 86 = .ok (.iload_n 3, 1) := by decide +kernel
theorem dX5_year_87 : decode cX5_year 87 = .ok (.ifCond .ne 13, 3) := by decide +kernel
theorem dX5_year_90 : decode cX5_year 90 = .ok (.aload_n 0, 1) := by decide +kernel
theorem dX5_year_91 : decode cX5_year 91 = .ok (.getfield 31, 3) := by decide +kernel
theorem dX5_year_94 : decode cX5_year 94 = .ok (.invokevirtual 158, 3) := by decide +kernel
theorem dX5_year_97 : decode cX5_year 97 = .ok (.goto 5, 3) := by decide +kernel
theorem dX5_year_100 : decode cX5_year 100 = .ok (.iload 4, 2) := by decide +kernel
theorem dX5_year_102 : decode cX5_year 102 = .ok (.ireturn, 1) := by decide +kernel
set_option maxRecDepth 20000 in
theorem ggX5_keep_X2_add : GoodIn wsX5_keep wsX2_add := goodIn_r _ [8, 9, 10, 11, 12, 13, 7, 14, 15, 16, 17, 18, 19, 20, 21, 22, 23, 24, 25, 26, 27, 28, 29, 30, 40, 41, 42, 43, 44, 45, 46, 47, 48, 49, 50, 51, 52] (by decide +kernel) (by decide +kernel)
set_option maxRecDepth 20000 in
theorem gX5_keep_X2_add : GoodIn wsX5_keep (wsV RX5 134 RX2 yX2_add wsX2_add) := goodIn_app (goodIn_of _ (by decide +kernel)) ggX5_keep_X2_add
theorem dX5_keep_0 : decode cX5_keep 0 = .ok (.aload_n 0, 1) := by decide +kernel
theorem dX5_keep_1 : decode cX5_keep 1 = .ok (.getfield 43, 3) := by decide +kernel
theorem dX5_keep_4 : decode cX5_keep 4 = .ok (.getfield 168, 3) := by decide +kernel
theorem dX5_keep_7 : decode cX5_keep 7 = .ok (.iconst 2, 1) := by decide +kernel
theorem dX5_keep_8 : decode cX5_keep 8 = .ok (.if_icmp .lt 6, 3) := by decide +kernel
theorem dX5_keep_11 : decode cX5_keep 11 = .ok (.bipush (-3), 2) := by decide +kernel
theorem dX5_keep_13 : decode cX5_keep 13 = .ok (.ireturn, 1) := by decide +kernel
theorem dX5_keep_14 : decode cX5_keep 14 = .ok (.aload_n 0, 1) := by decide +kernel
theorem dX5_keep_15 : decode cX5_keep 15 = .ok (.getfield 43, 3) := by decide +kernel
theorem dX5_keep_18 : decode cX5_keep 18 = .ok (.aload_n 0, 1) := by decide +kernel
theorem dX5_keep_19 : decode cX5_keep 19 = .ok (.getfield 24, 3) := by decide +kernel
theorem dX5_keep_22 : decode cX5_keep 22 = .ok (.invokevirtual 134, 3) := by decide +kernel
theorem dX5_keep_25 : decode cX5_keep 25 = .ok (.aload_n 0, 1) := by decide +kernel
theorem dX5_keep_26 : decode cX5_keep 26 = .ok (.getfield 43, 3) := by decide +kernel
theorem dX5_keep_29 : decode cX5_keep 29 = .ok (.getfield 168, 3) := by decide +kernel
theorem dX5_keep_32 : decode cX5_keep 32 = .ok (.ireturn, 1) := by decide +kernel
set_option maxRecDepth 20000 in
theorem ggX5_back_X2_takeLast : GoodIn wsX5_back wsX2_takeLast := goodIn_r _ [9, 10, 11, 12, 13, 14, 15, 16, 17, 18, 19, 20, 21, 22, 23, 24, 25, 26, 27, 41, 42, 43, 44, 45, 46, 47, 48, 49, 50, 51, 52, 53] (by decide +kernel) (by decide +kernel)
set_option maxRecDepth 20000 in
theorem gX5_back_X2_takeLast : GoodIn wsX5_back (wsV RX5 164 RX2 yX2_takeLast wsX2_takeLast) := goodIn_app (goodIn_of _ (by decide +kernel)) ggX5_back_X2_takeLast
set_option maxRecDepth 20000 in
theorem ggX5_back_X2_clear : GoodIn wsX5_back wsX2_clear := goodIn_r _ [31, 10, 41, 42] (by decide +kernel) (by decide +kernel)
set_option maxRecDepth 20000 in
theorem gX5_back_X2_clear : GoodIn wsX5_back (wsV RX5 87 RX2 yX2_clear wsX2_clear) := goodIn_app (goodIn_of _ (by decide +kernel)) ggX5_back_X2_clear
theorem dX5_back_0 : decode cX5_back 0 = .ok (.aload_n 0, 1) := by decide +kernel
theorem dX5_back_1 : decode cX5_back 1 = .ok (.getfield 43, 3) := by decide +kernel
theorem dX5_back_4 : decode cX5_back 4 = .ok (.aload_n 0, 1) := by decide +kernel
theorem dX5_back_5 : decode cX5_back 5 = .ok (.getfield 24, 3) := by decide +kernel
theorem dX5_back_8 : decode cX5_back 8 = .ok (.invokevirtual 164, 3) := by decide +kernel
theorem dX5_back_11 : decode cX5_back 11 = .ok (.ifCond .ne 6, 3) := by decide +kernel
theorem dX5_back_14 : decode cX5_back 14 = .ok (.bipush (-2), 2) := by decide +kernel
theorem dX5_back_16 : decode cX5_back 16 = .ok (.ireturn, 1) := by decide +kernel
theorem dX5_back_17 : decode cX5_back 17 = .ok (.aload_n 0, 1) := by decide +kernel
theorem dX5_back_18 : decode cX5_back 18 = .ok (.getfield 39, 3) := by decide +kernel
theorem dX5_back_21 : decode cX5_back 21 = .ok (.invokevirtual 87, 3) := by decide +kernel
theorem dX5_back_24 : decode cX5_back 24 = .ok (.aload_n 0, 1) := by decide +kernel
theorem dX5_back_25 : decode cX5_back 25 = .ok (.getfield 43, 3) := by decide +kernel
theorem dX5_back_28 : decode cX5_back 28 = .ok (.getfield 168, 3) := by decide +kernel
theorem dX5_back_31 : decode cX5_back 31 = .ok (.ireturn, 1) := by decide +kernel
set_option maxRecDepth 20000 in
theorem ggX5_count_J6_bitCount_0f7a4 : GoodIn wsX5_count wsJ6_bitCount_0f7a4 := goodIn_r _ [15, 16, 17, 18] (by decide +kernel) (by decide +kernel)
set_option maxRecDepth 20000 in
theorem gX5_count_J6_bitCount_0f7a4 : GoodIn wsX5_count (va_wsS RX5 235 yJ6_bitCount_0f7a4 wsJ6_bitCount_0f7a4) := goodIn_app (goodIn_of _ (by decide +kernel)) ggX5_count_J6_bitCount_0f7a4
set_option maxRecDepth 20000 in
theorem ggX5_count_X0_policemen : GoodIn wsX5_count wsX0_policemen := goodIn_r _ [23, 24, 25, 26, 27, 22, 28, 29, 30, 31, 32, 33, 34, 35, 36, 37, 38, 39, 40, 41, 42, 43, 44, 45, 46, 47, 13, 14, 15, 16, 17, 18, 73, 74, 75, 76, 77, 78, 79, 80, 81, 82, 83] (by decide +kernel) (by decide +kernel)
set_option maxRecDepth 20000 in
theorem gX5_count_X0_policemen : GoodIn wsX5_count (wsV RX5 158 RX0 yX0_policemen wsX0_policemen) := goodIn_app (goodIn_of _ (by decide +kernel)) ggX5_count_X0_policemen
set_option maxRecDepth 20000 in
theorem ggX5_count_X0_policemenWhoServed : GoodIn wsX5_count wsX0_policemenWhoServed := goodIn_r _ [51, 29, 52, 53, 54, 22, 55, 56, 57, 40, 41, 42, 43, 58, 59, 60, 61, 39, 24, 30, 31, 32, 33, 34, 44, 45, 46, 62, 63, 73, 74, 75, 76, 77, 78, 79, 80, 81, 82, 83] (by decide +kernel) (by decide +kernel)
set_option maxRecDepth 20000 in
theorem gX5_count_X0_policemenWhoServed : GoodIn wsX5_count (wsV RX5 258 RX0 yX0_policemenWhoServed wsX0_policemenWhoServed) := goodIn_app (goodIn_of _ (by decide +kernel)) ggX5_count_X0_policemenWhoServed
theorem dX5_count_0 : decode cX5_count 0 = .ok (.iload_n 1, 1) := by decide +kernel
theorem dX5_count_1 : decode cX5_count 1 = .ok (.tableswitch 138 0 9 #[55, 63, 74, 82, 90, 98, 109, 117, 125, 133], 55) := by decide +kernel
theorem dX5_count_56 : decode cX5_count 56 = .ok (.aload_n 0, 1) := by decide +kernel
theorem dX5_count_57 : decode cX5_count 57 = .ok (.getfield 24, 3) := by decide +kernel
theorem dX5_count_60 : decode cX5_count 60 = .ok (.getfield 80, 3) := by decide +kernel
theorem dX5_count_63 : decode cX5_count 63 = .ok (.ireturn, 1) := by decide +kernel
theorem dX5_count_64 : decode cX5_count 64 = .ok (.aload_n 0, 1) := by decide +kernel
theorem dX5_count_65 : decode cX5_count 65 = .ok (.getfield 24, 3) := by decide +kernel
theorem dX5_count_68 : decode cX5_count 68 = .ok (.getfield 255, 3) := by decide +kernel
theorem dX5_count_71 : decode cX5_count 71 = .ok (.invokestatic 235, 3) := by decide +kernel
theorem dX5_count_74 : decode cX5_count 74 = .ok (.ireturn, 1) := by decide +kernel
theorem dX5_count_75 : decode cX5_count 75 = .ok (.aload_n 0, 1) := by decide +kernel
theorem dX5_count_76 : decode cX5_count 76 = .ok (.getfield 24, 3) := by decide +kernel
theorem dX5_count_79 : decode cX5_count 79 = .ok (.invokevirtual 158, 3) := by decide +kernel
theorem dX5_count_82 : decode cX5_count 82 = .ok (.ireturn, 1) := by decide +kernel
theorem dX5_count_83 : decode cX5_count 83 = .ok (.aload_n 0, 1) := by decide +kernel
theorem dX5_count_84 : decode cX5_count 84 = .ok (.getfield 24, 3) := by decide +kernel
theorem dX5_count_87 : decode cX5_count 87 = .ok (.invokevirtual 258, 3) := by decide +kernel
theorem dX5_count_90 : decode cX5_count 90 = .ok (.ireturn, 1) := by decide +kernel
theorem dX5_count_91 : decode cX5_count 91 = .ok (.aload_n 0, 1) := by decide +kernel
theorem dX5_count_92 : decode cX5_count 92 = .ok (.getfield 24, 3) := by decide +kernel
theorem dX5_count_95 : decode cX5_count 95 = .ok (.getfield 141, 3) := by decide +kernel
theorem dX5_count_98 : decode cX5_count 98 = .ok (.ireturn, 1) := by decide +kernel
theorem dX5_count_99 : decode cX5_count 99 = .ok (.aload_n 0, 1) := by decide +kernel
theorem dX5_count_100 : decode cX5_count 100 = .ok (.getfield 24, 3) := by decide +kernel
theorem dX5_count_103 : decode cX5_count 103 = .ok (.getfield 108, 3) := by decide +kernel
theorem dX5_count_106 : decode cX5_count 106 = .ok (.invokestatic 235, 3) := by decide +kernel
theorem dX5_count_109 : decode cX5_count 109 = .ok (.ireturn, 1) := by decide +kernel
theorem dX5_count_110 : decode cX5_count 110 = .ok (.aload_n 0, 1) := by decide +kernel
theorem dX5_count_111 : decode cX5_count 111 = .ok (.getfield 49, 3) := by decide +kernel
theorem dX5_count_114 : decode cX5_count 114 = .ok (.getfield 210, 3) := by decide +kernel
theorem dX5_count_117 : decode cX5_count 117 = .ok (.ireturn, 1) := by decide +kernel
theorem dX5_count_118 : decode cX5_count 118 = .ok (.aload_n 0, 1) := by decide +kernel
theorem dX5_count_119 : decode cX5_count 119 = .ok (.getfield 39, 3) := by decide +kernel
theorem dX5_count_122 : decode cX5_count 122 = .ok (.getfield 168, 3) := by decide +kernel
theorem dX5_count_125 : decode cX5_count 125 = .ok (.ireturn, 1) := by decide +kernel
theorem dX5_count_126 : decode cX5_count 126 = .ok (.aload_n 0, 1) := by decide +kernel
theorem dX5_count_127 : decode cX5_count 127 = .ok (.getfield 43, 3) := by decide +kernel
theorem dX5_count_130 : decode cX5_count 130 = .ok (.getfield 168, 3) := by decide +kernel
theorem dX5_count_133 : decode cX5_count 133 = .ok (.ireturn, 1) := by decide +kernel
theorem dX5_count_134 : decode cX5_count 134 = .ok (.aload_n 0, 1) := by decide +kernel
theorem dX5_count_135 : decode cX5_count 135 = .ok (.getfield 76, 3) := by decide +kernel
theorem dX5_count_138 : decode cX5_count 138 = .ok (.ireturn, 1) := by decide +kernel
theorem dX5_count_139 : decode cX5_count 139 = .ok (.iconst (-1), 1) := by decide +kernel
theorem dX5_count_140 : decode cX5_count 140 = .ok (.ireturn, 1) := by decide +kernel
theorem dX5_isWithin_0 : decode cX5_isWithin 0 = .ok (.iload_n 0, 1) := by decide +kernel
theorem dX5_isWithin_1 : decode cX5_isWithin 1 = .ok (.iload_n 1, 1) := by decide +kernel
theorem dX5_isWithin_2 : decode cX5_isWithin 2 = .ok (.if_icmp .lt 12, 3) := by decide +kernel
theorem dX5_isWithin_5 : decode cX5_isWithin 5 = .ok (.iload_n 0, 1) := by decide +kernel
theorem dX5_isWithin_6 : decode cX5_isWithin 6 = .ok (.iload_n 2, 1) := by decide +kernel
theorem dX5_isWithin_7 : decode cX5_isWithin 7 = .ok (.if_icmp .gt 7, 3) := by decide +kernel
theorem dX5_isWithin_10 : decode cX5_isWithin 10 = .ok (.iconst 1, 1) := by decide +kernel
theorem dX5_isWithin_11 : decode cX5_isWithin 11 = .ok (.goto 4, 3) := by decide +kernel
theorem dX5_isWithin_14 : decode cX5_isWithin 14 = .ok (.iconst 0, 1) := by decide +kernel
theorem dX5_isWithin_15 : decode cX5_isWithin 15 = .ok (.ireturn, 1) := by decide +kernel
set_option maxRecDepth 20000 in
theorem ggX5_isFact_X5_isWithin : GoodIn wsX5_isFact wsX5_isWithin := goodIn_r _ [4] (by decide +kernel) (by decide +kernel)
set_option maxRecDepth 20000 in
theorem gX5_isFact_X5_isWithin : GoodIn wsX5_isFact (va_wsS RX5 72 yX5_isWithin wsX5_isWithin) := goodIn_app (goodIn_of _ (by decide +kernel)) ggX5_isFact_X5_isWithin
theorem dX5_isFact_0 : decode cX5_isFact 0 = .ok (.iload_n 0, 1) := by decide +kernel
theorem dX5_isFact_1 : decode cX5_isFact 1 = .ok (.iconst 0, 1) := by decide +kernel
theorem dX5_isFact_2 : decode cX5_isFact 2 = .ok (.iconst 5, 1) := by decide +kernel
theorem dX5_isFact_3 : decode cX5_isFact 3 = .ok (.invokestatic 72, 3) := by decide +kernel
theorem dX5_isFact_6 : decode cX5_isFact 6 = .ok (.ireturn, 1) := by decide +kernel
set_option maxRecDepth 20000 in
theorem ggX5_isLiteral_X5_isWithin : GoodIn wsX5_isLiteral wsX5_isWithin := goodIn_r _ [4] (by decide +kernel) (by decide +kernel)
set_option maxRecDepth 20000 in
theorem gX5_isLiteral_X5_isWithin : GoodIn wsX5_isLiteral (va_wsS RX5 72 yX5_isWithin wsX5_isWithin) := goodIn_app (goodIn_of _ (by decide +kernel)) ggX5_isLiteral_X5_isWithin
theorem dX5_isLiteral_0 : decode cX5_isLiteral 0 = .ok (.iload_n 0, 1) := by decide +kernel
theorem dX5_isLiteral_1 : decode cX5_isLiteral 1 = .ok (.iconst 0, 1) := by decide +kernel
theorem dX5_isLiteral_2 : decode cX5_isLiteral 2 = .ok (.bipush 11, 2) := by decide +kernel
theorem dX5_isLiteral_4 : decode cX5_isLiteral 4 = .ok (.invokestatic 72, 3) := by decide +kernel
theorem dX5_isLiteral_7 : decode cX5_isLiteral 7 = .ok (.ireturn, 1) := by decide +kernel
set_option maxRecDepth 20000 in
theorem ggX5_isSaying_X5_isWithin : GoodIn wsX5_isSaying wsX5_isWithin := goodIn_r _ [4] (by decide +kernel) (by decide +kernel)
set_option maxRecDepth 20000 in
theorem gX5_isSaying_X5_isWithin : GoodIn wsX5_isSaying (va_wsS RX5 72 yX5_isWithin wsX5_isWithin) := goodIn_app (goodIn_of _ (by decide +kernel)) ggX5_isSaying_X5_isWithin
set_option maxRecDepth 20000 in
theorem ggX5_isSaying_X5_isLiteral : GoodIn wsX5_isSaying wsX5_isLiteral := goodIn_r _ [7, 1, 2, 3, 4] (by decide +kernel) (by decide +kernel)
set_option maxRecDepth 20000 in
theorem gX5_isSaying_X5_isLiteral : GoodIn wsX5_isSaying (va_wsS RX5 261 yX5_isLiteral wsX5_isLiteral) := goodIn_app (goodIn_of _ (by decide +kernel)) ggX5_isSaying_X5_isLiteral
theorem dX5_isSaying_0 : decode cX5_isSaying 0 = .ok (.iload_n 0, 1) := by decide +kernel
theorem dX5_isSaying_1 : decode cX5_isSaying 1 = .ok (.iconst 0, 1) := by decide +kernel
theorem dX5_isSaying_2 : decode cX5_isSaying 2 = .ok (.iconst 4, 1) := by decide +kernel
theorem dX5_isSaying_3 : decode cX5_isSaying 3 = .ok (.invokestatic 72, 3) := by decide +kernel
theorem dX5_isSaying_6 : decode cX5_isSaying 6 = .ok (.ifCond .eq 30, 3) := by decide +kernel
theorem dX5_isSaying_9 : decode cX5_isSaying 9 = .ok (.iload_n 1, 1) := by decide +kernel
theorem dX5_isSaying_10 : decode cX5_isSaying 10 = .ok (.invokestatic 261, 3) := by decide +kernel
theorem dX5_isSaying_13 : decode cX5_isSaying 13 = .ok (.ifCond .eq 23, 3) := by decide +kernel
theorem dX5_isSaying_16 : decode cX5_isSaying 16 = .ok (.iload_n 2, 1) := by decide +kernel
theorem dX5_isSaying_17 : decode cX5_isSaying 17 = .ok (.invokestatic 261, 3) := by decide +kernel
theorem dX5_isSaying_20 : decode cX5_isSaying 20 = .ok (.ifCond .eq 16, 3) := by decide +kernel
theorem dX5_isSaying_23 : decode cX5_isSaying 23 = .ok (.iload_n 3, 1) := by decide +kernel
theorem dX5_isSaying_24 : decode cX5_isSaying 24 = .ok (.iconst 0, 1) := by decide +kernel
theorem dX5_isSaying_25 : decode cX5_isSaying 25 = .ok (.iconst 5, 1) := by decide +kernel
theorem dX5_isSaying_26 : decode cX5_isSaying 26 = .ok (.invokestatic 72, 3) := by decide +kernel
theorem dX5_isSaying_29 : decode cX5_isSaying 29 = .ok (.ifCond .eq 7, 3) := by decide +kernel
theorem dX5_isSaying_32 : decode cX5_isSaying 32 = .ok (.iconst 1, 1) := by decide +kernel
theorem dX5_isSaying_33 : decode cX5_isSaying 33 = .ok (.goto 4, 3) := by decide +kernel
theorem dX5_isSaying_36 : decode cX5_isSaying 36 = .ok (.iconst 0, 1) := by decide +kernel
theorem dX5_isSaying_37 : decode cX5_isSaying 37 = .ok (.ireturn, 1) := by decide +kernel
theorem dX5_asNumber_0 : decode cX5_asNumber 0 = .ok (.iload_n 0, 1) := by decide +kernel
theorem dX5_asNumber_1 : decode cX5_asNumber 1 = .ok (.ifCond .eq 7, 3) := by decide +kernel
theorem dX5_asNumber_4 : decode cX5_asNumber 4 = .ok (.iconst 1, 1) := by decide +kernel
theorem dX5_asNumber_5 : decode cX5_asNumber 5 = .ok (.goto 4, 3) := by decide +kernel
theorem dX5_asNumber_8 : decode cX5_asNumber 8 = .ok (.iconst 0, 1) := by decide +kernel
theorem dX5_asNumber_9 : decode cX5_asNumber 9 = .ok (.ireturn, 1) := by decide +kernel
theorem dX5_isBitOf_0 : decode cX5_isBitOf 0 = .ok (.iload_n 0, 1) := by decide +kernel
theorem dX5_isBitOf_1 : decode cX5_isBitOf 1 = .ok (.iload_n 1, 1) := by decide +kernel
theorem dX5_isBitOf_2 : decode cX5_isBitOf 2 = .ok (.ishr, 1) := by decide +kernel
theorem dX5_isBitOf_3 : decode cX5_isBitOf 3 = .ok (.iconst 1, 1) := by decide +kernel
theorem dX5_isBitOf_4 : decode cX5_isBitOf 4 = .ok (.iand, 1) := by decide +kernel
theorem dX5_isBitOf_5 : decode cX5_isBitOf 5 = .ok (.iconst 1, 1) := by decide +kernel
theorem dX5_isBitOf_6 : decode cX5_isBitOf 6 = .ok (.if_icmp .ne 7, 3) := by decide +kernel
theorem dX5_isBitOf_9 : decode cX5_isBitOf 9 = .ok (.iconst 1, 1) := by decide +kernel
theorem dX5_isBitOf_10 : decode cX5_isBitOf 10 = .ok (.goto 4, 3) := by decide +kernel
theorem dX5_isBitOf_13 : decode cX5_isBitOf 13 = .ok (.iconst 0, 1) := by decide +kernel
theorem dX5_isBitOf_14 : decode cX5_isBitOf 14 = .ok (.ireturn, 1) := by decide +kernel
theorem dX5_power_0 : decode cX5_power 0 = .ok (.iconst 1, 1) := by decide +kernel
theorem dX5_power_1 : decode cX5_power 1 = .ok (.istore_n 2, 1) := by decide +kernel
theorem dX5_power_2 : decode cX5_power 2 = .ok (.iconst 0, 1) := by decide +kernel
theorem dX5_power_3 : decode cX5_power 3 = .ok (.istore_n 3, 1) := by decide +kernel
theorem dX5_power_4 : decode cX5_power 4 = .ok (.iload_n 3, 1) := by decide +kernel
theorem dX5_power_5 : decode cX5_power 5 = .ok (.iload_n 1, 1) := by decide +kernel
theorem dX5_power_6 : decode cX5_power 6 = .ok (.if_icmp .ge 13, 3) := by decide +kernel
theorem dX5_power_9 : decode cX5_power 9 = .ok (.iload_n 2, 1) := by decide +kernel
theorem dX5_power_10 : decode cX5_power 10 = .ok (.iload_n 0, 1) := by decide +kernel
theorem dX5_power_11 : decode cX5_power 11 = .ok (.imul, 1) := by decide +kernel
theorem dX5_power_12 : decode cX5_power 12 = .ok (.istore_n 2, 1) := by decide +kernel
theorem dX5_power_13 : decode cX5_power 13 = .ok (.iinc 3 1, 3) := by decide +kernel
theorem dX5_power_16 : decode cX5_power 16 = .ok (.goto (-12), 3) := by decide +kernel
theorem dX5_power_19 : decode cX5_power 19 = .ok (.iload_n 2, 1) := by decide +kernel
theorem dX5_power_20 : decode cX5_power 20 = .ok (.ireturn, 1) := by decide +kernel
set_option maxRecDepth 20000 in
theorem ggX5_waysToTurn_J6_bitCount_0f7a4 : GoodIn wsX5_waysToTurn wsJ6_bitCount_0f7a4 := goodIn_r _ [4, 5, 6, 7] (by decide +kernel) (by decide +kernel)
set_option maxRecDepth 20000 in
theorem gX5_waysToTurn_J6_bitCount_0f7a4 : GoodIn wsX5_waysToTurn (va_wsS RX5 235 yJ6_bitCount_0f7a4 wsJ6_bitCount_0f7a4) := goodIn_app (goodIn_of _ (by decide +kernel)) ggX5_waysToTurn_J6_bitCount_0f7a4
set_option maxRecDepth 20000 in
theorem ggX5_waysToTurn_X5_power : GoodIn wsX5_waysToTurn wsX5_power := goodIn_r _ [11] (by decide +kernel) (by decide +kernel)
set_option maxRecDepth 20000 in
theorem gX5_waysToTurn_X5_power : GoodIn wsX5_waysToTurn (va_wsS RX5 243 yX5_power wsX5_power) := goodIn_app (goodIn_of _ (by decide +kernel)) ggX5_waysToTurn_X5_power
theorem dX5_waysToTurn_0 : decode cX5_waysToTurn 0 = .ok (.iload_n 0, 1) := by decide +kernel
theorem dX5_waysToTurn_1 : decode cX5_waysToTurn 1 = .ok (.invokestatic 235, 3) := by decide +kernel
theorem dX5_waysToTurn_4 : decode cX5_waysToTurn 4 = .ok (.istore_n 2, 1) := by decide +kernel
theorem dX5_waysToTurn_5 : decode cX5_waysToTurn 5 = .ok (.iload_n 1, 1) := by decide +kernel
theorem dX5_waysToTurn_6 : decode cX5_waysToTurn 6 = .ok (.iload_n 2, 1) := by decide +kernel
theorem dX5_waysToTurn_7 : decode cX5_waysToTurn 7 = .ok (.invokestatic 243, 3) := by decide +kernel
theorem dX5_waysToTurn_10 : decode cX5_waysToTurn 10 = .ok (.bipush 10, 2) := by decide +kernel
theorem dX5_waysToTurn_12 : decode cX5_waysToTurn 12 = .ok (.iload_n 1, 1) := by decide +kernel
theorem dX5_waysToTurn_13 : decode cX5_waysToTurn 13 = .ok (.isub, 1) := by decide +kernel
theorem dX5_waysToTurn_14 : decode cX5_waysToTurn 14 = .ok (.bipush 6, 2) := by decide +kernel
theorem dX5_waysToTurn_16 : decode cX5_waysToTurn 16 = .ok (.iload_n 2, 1) := by decide +kernel
theorem dX5_waysToTurn_17 : decode cX5_waysToTurn 17 = .ok (.isub, 1) := by decide +kernel
theorem dX5_waysToTurn_18 : decode cX5_waysToTurn 18 = .ok (.invokestatic 243, 3) := by decide +kernel
theorem dX5_waysToTurn_21 : decode cX5_waysToTurn 21 = .ok (.imul, 1) := by decide +kernel
theorem dX5_waysToTurn_22 : decode cX5_waysToTurn 22 = .ok (.ireturn, 1) := by decide +kernel
theorem dX5_commonDivisor_0 : decode cX5_commonDivisor 0 = .ok (.iload_n 0, 1) := by decide +kernel
theorem dX5_commonDivisor_1 : decode cX5_commonDivisor 1 = .ok (.istore_n 2, 1) := by decide +kernel
theorem dX5_commonDivisor_2 : decode cX5_commonDivisor 2 = .ok (.iload_n 1, 1) := by decide +kernel
theorem dX5_commonDivisor_3 : decode cX5_commonDivisor 3 = .ok (.istore_n 3, 1) := by decide +kernel
theorem dX5_commonDivisor_4 : decode cX5_commonDivisor 4 = .ok (.iconst 0, 1) := by decide +kernel
theorem dX5_commonDivisor_5 : decode cX5_commonDivisor 5 = .ok (.istore 4, 2) := by decide +kernel
theorem dX5_commonDivisor_7 : decode cX5_commonDivisor 7 = .ok (.iload 4, 2) := by decide +kernel
theorem dX5_commonDivisor_9 : decode cX5_commonDivisor 9 = .ok (.bipush 100, 2) := by decide +kernel
theorem dX5_commonDivisor_11 : decode cX5_commonDivisor 11 = .ok (.if_icmp .ge 23, 3) := by decide +kernel
theorem dX5_commonDivisor_14 : decode cX5_commonDivisor 14 = .ok (.iload_n 3, 1) := by decide +kernel
theorem dX5_commonDivisor_15 : decode cX5_commonDivisor 15 = .ok (.ifCond .eq 19, 3) := by decide +kernel
theorem dX5_commonDivisor_18 : decode cX5_commonDivisor 18 = .ok (.iload_n 2, 1) := by decide +kernel
theorem dX5_commonDivisor_19 : decode cX5_commonDivisor 19 = .ok (.iload_n 3, 1) := by decide +kernel
theorem dX5_commonDivisor_20 : decode cX5_commonDivisor 20 = .ok (.irem, 1) := by decide +kernel
theorem dX5_commonDivisor_21 : decode cX5_commonDivisor 21 = .ok (.istore 5, 2) := by decide +kernel
theorem dX5_commonDivisor_23 : decode cX5_commonDivisor 23 = .ok (.iload_n 3, 1) := by decide +kernel
theorem dX5_commonDivisor_24 : decode cX5_commonDivisor 24 = .ok (.istore_n 2, 1) := by decide +kernel
theorem dX5_commonDivisor_25 : decode cX5_commonDivisor 25 = .ok (.iload 5, 2) := by decide +kernel
theorem dX5_commonDivisor_27 : decode cX5_commonDivisor 27 = .ok (.istore_n 3, 1) := by decide +kernel
theorem dX5_commonDivisor_28 : decode cX5_commonDivisor 28 = .ok (.iinc 4 1, 3) := by decide +kernel
theorem dX5_commonDivisor_31 : decode cX5_commonDivisor 31 = .ok (.goto (-24), 3) := by decide +kernel
theorem dX5_commonDivisor_34 : decode cX5_commonDivisor 34 = .ok (.iload_n 2, 1) := by decide +kernel
theorem dX5_commonDivisor_35 : decode cX5_commonDivisor 35 = .ok (.ireturn, 1) := by decide +kernel
theorem dX5_draw_0 : decode cX5_draw 0 = .ok (.ldc2_w 264, 3) := by decide +kernel
theorem dX5_draw_3 : decode cX5_draw 3 = .ok (.iload_n 0, 1) := by decide +kernel
theorem dX5_draw_4 : decode cX5_draw 4 = .ok (.i2l, 1) := by decide +kernel
theorem dX5_draw_5 : decode cX5_draw 5 = .ok (.lmul, 1) := by decide +kernel
theorem dX5_draw_6 : decode cX5_draw 6 = .ok (.ldc2_w 266, 3) := by decide +kernel
theorem dX5_draw_9 : decode cX5_draw 9 = .ok (.iload_n 1, 1) := by decide +kernel
theorem dX5_draw_10 : decode cX5_draw 10 = .ok (.i2l, 1) := by decide +kernel
theorem dX5_draw_11 : decode cX5_draw 11 = .ok (.lmul, 1) := by decide +kernel
theorem dX5_draw_12 : decode cX5_draw 12 = .ok (.ladd, 1) := by decide +kernel
theorem dX5_draw_13 : decode cX5_draw 13 = .ok (.lconst 1, 1) := by decide +kernel
theorem dX5_draw_14 : decode cX5_draw 14 = .ok (.ladd, 1) := by decide +kernel
theorem dX5_draw_15 : decode cX5_draw 15 = .ok (.lstore_n 2, 1) := by decide +kernel
theorem dX5_draw_16 : decode cX5_draw 16 = .ok (.lload_n 2, 1) := by decide +kernel
theorem dX5_draw_17 : decode cX5_draw 17 = .ok (.lload_n 2, 1) := by decide +kernel
theorem dX5_draw_18 : decode cX5_draw 18 = .ok (.lmul, 1) := by decide +kernel
theorem dX5_draw_19 : decode cX5_draw 19 = .ok (.ldc2_w 268, 3) := by decide +kernel
theorem dX5_draw_22 : decode cX5_draw 22 = .ok (.lrem, 1) := by decide +kernel
theorem dX5_draw_23 : decode cX5_draw 23 = .ok (.l2i, 1) := by decide +kernel
theorem dX5_draw_24 : decode cX5_draw 24 = .ok (.ireturn, 1) := by decide +kernel
theorem dX5_worldsOfLiteral_0 : decode cX5_worldsOfLiteral 0 = .ok (.iload_n 0, 1) := by decide +kernel
theorem dX5_worldsOfLiteral_1 : decode cX5_worldsOfLiteral 1 = .ok (.ifCond .lt 9, 3) := by decide +kernel
theorem dX5_worldsOfLiteral_4 : decode cX5_worldsOfLiteral 4 = .ok (.iload_n 0, 1) := by decide +kernel
theorem dX5_worldsOfLiteral_5 : decode cX5_worldsOfLiteral 5 = .ok (.bipush 12, 2) := by decide +kernel
theorem dX5_worldsOfLiteral_7 : decode cX5_worldsOfLiteral 7 = .ok (.if_icmp .lt 5, 3) := by decide +kernel
theorem dX5_worldsOfLiteral_10 : decode cX5_worldsOfLiteral 10 = .ok (.lconst 0, 1) := by decide +kernel
theorem dX5_worldsOfLiteral_11 : decode cX5_worldsOfLiteral 11 = .ok (.lreturn, 1) := by decide +kernel
theorem dX5_worldsOfLiteral_12 : decode cX5_worldsOfLiteral 12 = .ok (.iload_n 0, 1) := by decide +kernel
theorem dX5_worldsOfLiteral_13 : decode cX5_worldsOfLiteral 13 = .ok (.bipush 6, 2) := by decide +kernel
theorem dX5_worldsOfLiteral_15 : decode cX5_worldsOfLiteral 15 = .ok (.if_icmp .ge 11, 3) := by decide +kernel
theorem dX5_worldsOfLiteral_18 : decode cX5_worldsOfLiteral 18 = .ok (.getstatic 270, 3) := by decide +kernel
theorem dX5_worldsOfLiteral_21 : decode cX5_worldsOfLiteral 21 = .ok (.iload_n 0, 1) := by decide +kernel
theorem dX5_worldsOfLiteral_22 : decode cX5_worldsOfLiteral 22 = .ok (.laload, 1) := by decide +kernel
theorem dX5_worldsOfLiteral_23 : decode cX5_worldsOfLiteral 23 = .ok (.goto 15, 3) := by decide +kernel
theorem dX5_worldsOfLiteral_26 : decode cX5_worldsOfLiteral 26 = .ok (.getstatic 270, 3) := by decide +kernel
theorem dX5_worldsOfLiteral_29 : decode cX5_worldsOfLiteral 29 = .ok (.iload_n 0, 1) := by decide +kernel
theorem dX5_worldsOfLiteral_30 : decode cX5_worldsOfLiteral 30 = .ok (.bipush 6, 2) := by decide +kernel
theorem dX5_worldsOfLiteral_32 : decode cX5_worldsOfLiteral 32 = .ok (.isub, 1) := by decide +kernel
theorem dX5_worldsOfLiteral_33 : decode cX5_worldsOfLiteral 33 = .ok (.laload, 1) := by decide +kernel
theorem dX5_worldsOfLiteral_34 : decode cX5_worldsOfLiteral 34 = .ok (.ldc2_w 274, 3) := by decide +kernel
theorem dX5_worldsOfLiteral_37 : decode cX5_worldsOfLiteral 37 = .ok (.lxor, 1) := by decide +kernel
theorem dX5_worldsOfLiteral_38 : decode cX5_worldsOfLiteral 38 = .ok (.lreturn, 1) := by decide +kernel
set_option maxRecDepth 20000 in
theorem ggX5_worldsOfSaying_X5_worldsOfLiteral : GoodIn wsX5_worldsOfSaying wsX5_worldsOfLiteral := goodIn_r _ [5, 6, 1] (by decide +kernel) (by decide +kernel)
set_option maxRecDepth 20000 in
theorem gX5_worldsOfSaying_X5_worldsOfLiteral : GoodIn wsX5_worldsOfSaying (va_wsS RX5 224 yX5_worldsOfLiteral wsX5_worldsOfLiteral) := goodIn_app (goodIn_of _ (by decide +kernel)) ggX5_worldsOfSaying_X5_worldsOfLiteral
theorem dX5_worldsOfSaying_0 : decode cX5_worldsOfSaying 0 = .ok (.iload_n 1, 1) := by decide +kernel
theorem dX5_worldsOfSaying_1 : decode cX5_worldsOfSaying 1 = .ok (.invokestatic 224, 3) := by decide +kernel
theorem dX5_worldsOfSaying_4 : decode cX5_worldsOfSaying 4 = .ok (.lstore_n 3, 1) := by decide +kernel
theorem dX5_worldsOfSaying_5 : decode cX5_worldsOfSaying 5 = .ok (.iload_n 2, 1) := by decide +kernel
theorem dX5_worldsOfSaying_6 : decode cX5_worldsOfSaying 6 = .ok (.invokestatic 224, 3) := by decide +kernel
theorem dX5_worldsOfSaying_9 : decode cX5_worldsOfSaying 9 = .ok (.lstore 5, 2) := by decide +kernel
theorem dX5_worldsOfSaying_11 : decode cX5_worldsOfSaying 11 = .ok (.iload_n 0, 1) := by decide +kernel
theorem dX5_worldsOfSaying_12 : decode cX5_worldsOfSaying 12 = .ok (.tableswitch 56 1 4 #[32, 37, 42, 51], 32) := by decide +kernel
theorem dX5_worldsOfSaying_44 : decode cX5_worldsOfSaying 44 = .ok (.lload_n 3, 1) := by decide +kernel
theorem dX5_worldsOfSaying_45 : decode cX5_worldsOfSaying 45 = .ok (.lload 5, 2) := by decide +kernel
theorem dX5_worldsOfSaying_47 : decode cX5_worldsOfSaying 47 = .ok (.land, 1) := by decide +kernel
theorem dX5_worldsOfSaying_48 : decode cX5_worldsOfSaying 48 = .ok (.lreturn, 1) := by decide +kernel
theorem dX5_worldsOfSaying_49 : decode cX5_worldsOfSaying 49 = .ok (.lload_n 3, 1) := by decide +kernel
theorem dX5_worldsOfSaying_50 : decode cX5_worldsOfSaying 50 = .ok (.lload 5, 2) := by decide +kernel
theorem dX5_worldsOfSaying_52 : decode cX5_worldsOfSaying 52 = .ok (.lor, 1) := by decide +kernel
theorem dX5_worldsOfSaying_53 : decode cX5_worldsOfSaying 53 = .ok (.lreturn, 1) := by decide +kernel
theorem dX5_worldsOfSaying_54 : decode cX5_worldsOfSaying 54 = .ok (.lload_n 3, 1) := by decide +kernel
theorem dX5_worldsOfSaying_55 : decode cX5_worldsOfSaying 55 = .ok (.ldc2_w 274, 3) := by decide +kernel
theorem dX5_worldsOfSaying_58 : decode cX5_worldsOfSaying 58 = .ok (.lxor, 1) := by decide +kernel
theorem dX5_worldsOfSaying_59 : decode cX5_worldsOfSaying 59 = .ok (.lload 5, 2) := by decide +kernel
theorem dX5_worldsOfSaying_61 : decode cX5_worldsOfSaying 61 = .ok (.lor, 1) := by decide +kernel
theorem dX5_worldsOfSaying_62 : decode cX5_worldsOfSaying 62 = .ok (.lreturn, 1) := by decide +kernel
theorem dX5_worldsOfSaying_63 : decode cX5_worldsOfSaying 63 = .ok (.lload_n 3, 1) := by decide +kernel
theorem dX5_worldsOfSaying_64 : decode cX5_worldsOfSaying 64 = .ok (.lload 5, 2) := by decide +kernel
theorem dX5_worldsOfSaying_66 : decode cX5_worldsOfSaying 66 = .ok (.lxor, 1) := by decide +kernel
theorem dX5_worldsOfSaying_67 : decode cX5_worldsOfSaying 67 = .ok (.lreturn, 1) := by decide +kernel
theorem dX5_worldsOfSaying_68 : decode cX5_worldsOfSaying 68 = .ok (.lload_n 3, 1) := by decide +kernel
theorem dX5_worldsOfSaying_69 : decode cX5_worldsOfSaying 69 = .ok (.lreturn, 1) := by decide +kernel
theorem dX5_isAmong_0 : decode cX5_isAmong 0 = .ok (.lload_n 0, 1) := by decide +kernel
theorem dX5_isAmong_1 : decode cX5_isAmong 1 = .ok (.iload_n 2, 1) := by decide +kernel
theorem dX5_isAmong_2 : decode cX5_isAmong 2 = .ok (.lushr, 1) := by decide +kernel
theorem dX5_isAmong_3 : decode cX5_isAmong 3 = .ok (.lconst 1, 1) := by decide +kernel
theorem dX5_isAmong_4 : decode cX5_isAmong 4 = .ok (.land, 1) := by decide +kernel
theorem dX5_isAmong_5 : decode cX5_isAmong 5 = .ok (.lconst 1, 1) := by decide +kernel
theorem dX5_isAmong_6 : decode cX5_isAmong 6 = .ok (.lcmp, 1) := by decide +kernel
theorem dX5_isAmong_7 : decode cX5_isAmong 7 = .ok (.ifCond .ne 7, 3) := by decide +kernel
theorem dX5_isAmong_10 : decode cX5_isAmong 10 = .ok (.iconst 1, 1) := by decide +kernel
theorem dX5_isAmong_11 : decode cX5_isAmong 11 = .ok (.goto 4, 3) := by decide +kernel
theorem dX5_isAmong_14 : decode cX5_isAmong 14 = .ok (.iconst 0, 1) := by decide +kernel
theorem dX5_isAmong_15 : decode cX5_isAmong 15 = .ok (.ireturn, 1) := by decide +kernel
set_option maxRecDepth 20000 in
theorem ggX5_lowestWorld_X5_isAmong : GoodIn wsX5_lowestWorld wsX5_isAmong := goodIn_r _ [4] (by decide +kernel) (by decide +kernel)
set_option maxRecDepth 20000 in
theorem gX5_lowestWorld_X5_isAmong : GoodIn wsX5_lowestWorld (va_wsS RX5 231 yX5_isAmong wsX5_isAmong) := goodIn_app (goodIn_of _ (by decide +kernel)) ggX5_lowestWorld_X5_isAmong
theorem dX5_lowestWorld_0 : decode cX5_lowestWorld 0 = .ok (.iconst 0, 1) := by decide +kernel
theorem dX5_lowestWorld_1 : decode cX5_lowestWorld 1 = .ok (.istore_n 2, 1) := by decide +kernel
theorem dX5_lowestWorld_2 : decode cX5_lowestWorld 2 = .ok (.iload_n 2, 1) := by decide +kernel
theorem dX5_lowestWorld_3 : decode cX5_lowestWorld 3 = .ok (.bipush 64, 2) := by decide +kernel
theorem dX5_lowestWorld_5 : decode cX5_lowestWorld 5 = .ok (.if_icmp .ge 19, 3) := by decide +kernel
theorem dX5_lowestWorld_8 : decode cX5_lowestWorld 8 = .ok (.lload_n 0, 1) := by decide +kernel
theorem dX5_lowestWorld_9 : decode cX5_lowestWorld 9 = .ok (.iload_n 2, 1) := by decide +kernel
theorem dX5_lowestWorld_10 : decode cX5_lowestWorld 10 = .ok (.invokestatic 231, 3) := by decide +kernel
theorem dX5_lowestWorld_13 : decode cX5_lowestWorld 13 = .ok (.ifCond .eq 5, 3) := by decide +kernel
theorem dX5_lowestWorld_16 : decode cX5_lowestWorld 16 = .ok (.iload_n 2, 1) := by decide +kernel
theorem dX5_lowestWorld_17 : decode cX5_lowestWorld 17 = .ok (.ireturn, 1) := by decide +kernel
theorem dX5_lowestWorld_18 : decode cX5_lowestWorld 18 = .ok (.iinc 2 1, 3) := by decide +kernel
theorem dX5_lowestWorld_21 : decode cX5_lowestWorld 21 = .ok (.goto (-19), 3) := by decide +kernel
theorem dX5_lowestWorld_24 : decode cX5_lowestWorld 24 = .ok (.bipush (-4), 2) := by decide +kernel
theorem dX5_lowestWorld_26 : decode cX5_lowestWorld 26 = .ok (.ireturn, 1) := by decide +kernel
set_option maxRecDepth 20000 in
theorem ggX5_mostPairs_X5_mostPairs : GoodIn wsX5_mostPairs wsX5_mostPairs := goodIn_r _ [0, 1, 2, 3, 4, 5, 6, 7, 8, 9, 10, 11, 12, 13, 14, 15, 16, 17, 18, 19, 20, 21, 22, 23, 24, 25, 26, 27, 28, 29, 30, 31, 32, 33, 34, 35, 36, 37, 38] (by decide +kernel) (by decide +kernel)
set_option maxRecDepth 20000 in
theorem gX5_mostPairs_X5_mostPairs : GoodIn wsX5_mostPairs (va_wsS RX5 193 yX5_mostPairs wsX5_mostPairs) := goodIn_app (goodIn_of _ (by decide +kernel)) ggX5_mostPairs_X5_mostPairs
set_option maxRecDepth 20000 in
theorem ggX5_mostPairs_X5_isBitOf : GoodIn wsX5_mostPairs wsX5_isBitOf := goodIn_r _ [11] (by decide +kernel) (by decide +kernel)
set_option maxRecDepth 20000 in
theorem gX5_mostPairs_X5_isBitOf : GoodIn wsX5_mostPairs (va_wsS RX5 276 yX5_isBitOf wsX5_isBitOf) := goodIn_app (goodIn_of _ (by decide +kernel)) ggX5_mostPairs_X5_isBitOf
set_option maxRecDepth 20000 in
theorem ggX5_mostPairs_X0_mayMarry : GoodIn wsX5_mostPairs wsX0_mayMarry := goodIn_r _ [16, 17, 18, 19, 20, 15, 21, 22, 23, 24, 25, 26, 27, 28, 29, 30, 31, 32, 33, 34, 35, 36, 37, 38] (by decide +kernel) (by decide +kernel)
set_option maxRecDepth 20000 in
theorem gX5_mostPairs_X0_mayMarry : GoodIn wsX5_mostPairs (wsV RX5 279 RX0 yX0_mayMarry wsX0_mayMarry) := goodIn_app (goodIn_of _ (by decide +kernel)) ggX5_mostPairs_X0_mayMarry
theorem dX5_mostPairs_0 : decode cX5_mostPairs 0 = .ok (.iload_n 2, 1) := by decide +kernel
theorem dX5_mostPairs_1 : decode cX5_mostPairs 1 = .ok (.aload_n 0, 1) := by decide +kernel
theorem dX5_mostPairs_2 : decode cX5_mostPairs 2 = .ok (.getfield 80, 3) := by decide +kernel
theorem dX5_mostPairs_5 : decode cX5_mostPairs 5 = .ok (.if_icmp .ge 9, 3) := by decide +kernel
theorem dX5_mostPairs_8 : decode cX5_mostPairs 8 = .ok (.iload_n 2, 1) := by decide +kernel
theorem dX5_mostPairs_9 : decode cX5_mostPairs 9 = .ok (.bipush 9, 2) := by decide +kernel
theorem dX5_mostPairs_11 : decode cX5_mostPairs 11 = .ok (.if_icmp .lt 5, 3) := by decide +kernel
theorem dX5_mostPairs_14 : decode cX5_mostPairs 14 = .ok (.iconst 0, 1) := by decide +kernel
theorem dX5_mostPairs_15 : decode cX5_mostPairs 15 = .ok (.ireturn, 1) := by decide +kernel
theorem dX5_mostPairs_16 : decode cX5_mostPairs 16 = .ok (.aload_n 0, 1) := by decide +kernel
theorem dX5_mostPairs_17 : decode cX5_mostPairs 17 = .ok (.iload_n 1, 1) := by decide +kernel
theorem dX5_mostPairs_18 : decode cX5_mostPairs 18 = .ok (.iload_n 2, 1) := by decide +kernel
theorem dX5_mostPairs_19 : decode cX5_mostPairs 19 = .ok (.iconst 1, 1) := by decide +kernel
theorem dX5_mostPairs_20 : decode cX5_mostPairs 20 = .ok (.iadd, 1) := by decide +kernel
theorem dX5_mostPairs_21 : decode cX5_mostPairs 21 = .ok (.invokestatic 193, 3) := by decide +kernel
theorem dX5_mostPairs_24 : decode cX5_mostPairs 24 = .ok (.istore_n 3, 1) := by decide +kernel
theorem dX5_mostPairs_25 : decode cX5_mostPairs 25 = .ok (.iload_n 1, 1) := by decide +kernel
theorem dX5_mostPairs_26 : decode cX5_mostPairs 26 = .ok (.iload_n 2, 1) := by decide +kernel
theorem dX5_mostPairs_27 : decode cX5_mostPairs 27 = .ok (.invokestatic 276, 3) := by decide +kernel
theorem dX5_mostPairs_30 : decode cX5_mostPairs 30 = .ok (.ifCond .ne 5, 3) := by decide +kernel
theorem dX5_mostPairs_33 : decode cX5_mostPairs 33 = .ok (.iload_n 3, 1) := by decide +kernel
theorem dX5_mostPairs_34 : decode cX5_mostPairs 34 = .ok (.ireturn, 1) := by decide +kernel
theorem dX5_mostPairs_35 : decode cX5_mostPairs 35 = .ok (.iload_n 2, 1) := by decide +kernel
theorem dX5_mostPairs_36 : decode cX5_mostPairs 36 = .ok (.iconst 1, 1) := by decide +kernel
theorem dX5_mostPairs_37 : decode cX5_mostPairs 37 = .ok (.iadd, 1) := by decide +kernel
theorem dX5_mostPairs_38 : decode cX5_mostPairs 38 = .ok (.istore 4, 2) := by decide +kernel
theorem dX5_mostPairs_40 : decode cX5_mostPairs 40 = .ok (.iload 4, 2) := by decide +kernel
theorem dX5_mostPairs_42 : decode cX5_mostPairs 42 = .ok (.aload_n 0, 1) := by decide +kernel
theorem dX5_mostPairs_43 : decode cX5_mostPairs 43 = .ok (.getfield 80, 3) := by decide +kernel
theorem dX5_mostPairs_46 : decode cX5_mostPairs 46 = .ok (.if_icmp .ge 50, 3) := by decide +kernel
theorem dX5_mostPairs_49 : decode cX5_mostPairs 49 = .ok (.iload_n 1, 1) := by decide +kernel
theorem dX5_mostPairs_50 : decode cX5_mostPairs 50 = .ok (.iload 4, 2) := by decide +kernel
theorem dX5_mostPairs_52 : decode cX5_mostPairs 52 = .ok (.invokestatic 276, 3) := by decide +kernel
theorem dX5_mostPairs_55 : decode cX5_mostPairs 55 = .ok (.ifCond .eq 35, 3) := by decide +kernel
theorem dX5_mostPairs_58 : decode cX5_mostPairs 58 = .ok (.aload_n 0, 1) := by decide +kernel
theorem dX5_mostPairs_59 : decode cX5_mostPairs 59 = .ok (.iload_n 2, 1) := by decide +kernel
theorem dX5_mostPairs_60 : decode cX5_mostPairs 60 = .ok (.iload 4, 2) := by decide +kernel
theorem dX5_mostPairs_62 : decode cX5_mostPairs 62 = .ok (.invokevirtual 279, 3) := by decide +kernel
theorem dX5_mostPairs_65 : decode cX5_mostPairs 65 = .ok (.ifCond .eq 25, 3) := by decide +kernel
theorem dX5_mostPairs_68 : decode cX5_mostPairs 68 = .ok (.iload_n 3, 1) := by decide +kernel
theorem dX5_mostPairs_69 : decode cX5_mostPairs 69 = .ok (.iconst 1, 1) := by decide +kernel
theorem dX5_mostPairs_70 : decode cX5_mostPairs 70 = .ok (.aload_n 0, 1) := by decide +kernel
theorem dX5_mostPairs_71 : decode cX5_mostPairs 71 = .ok (.iload_n 1, 1) := by decide +kernel
theorem dX5_mostPairs_72 : decode cX5_mostPairs 72 = .ok (.iconst 1, 1) := by decide +kernel
theorem dX5_mostPairs_73 : decode cX5_mostPairs 73 = .ok (.iload 4, 2) := by decide +kernel
theorem dX5_mostPairs_75 : decode cX5_mostPairs 75 = .ok (.ishl, 1) := by decide +kernel
theorem dX5_mostPairs_76 : decode cX5_mostPairs 76 = .ok (.iconst (-1), 1) := by decide +kernel
theorem dX5_mostPairs_77 : decode cX5_mostPairs 77 = .ok (.ixor, 1) := by decide +kernel
theorem dX5_mostPairs_78 : decode cX5_mostPairs 78 = .ok (.iand, 1) := by decide +kernel
theorem dX5_mostPairs_79 : decode cX5_mostPairs 79 = .ok (.iload_n 2, 1) := by decide +kernel
theorem dX5_mostPairs_80 : decode cX5_mostPairs 80 = .ok (.iconst 1, 1) := by decide +kernel
theorem dX5_mostPairs_81 : decode cX5_mostPairs 81 = .ok (.iadd, 1) := by decide +kernel
theorem dX5_mostPairs_82 : decode cX5_mostPairs 82 = .ok (.invokestatic 193, 3) := by decide +kernel
theorem dX5_mostPairs_85 : decode cX5_mostPairs 85 = .ok (.iadd, 1) := by decide +kernel
theorem dX5_mostPairs_86 : decode cX5_mostPairs 86 = .ok (.invokestatic 282, 3) := by decide +kernel
theorem dX5_mostPairs_89 : decode cX5_mostPairs 89 = .ok (.istore_n 3, 1) := by decide +kernel
theorem dX5_mostPairs_90 : decode cX5_mostPairs 90 = .ok (.iinc 4 1, 3) := by decide +kernel
theorem dX5_mostPairs_93 : decode cX5_mostPairs 93 = .ok (.goto (-53), 3) := by decide +kernel
theorem dX5_mostPairs_96 : decode cX5_mostPairs 96 = .ok (.iload_n 3, 1) := by decide +kernel
theorem dX5_mostPairs_97 : decode cX5_mostPairs 97 = .ok (.ireturn, 1) := by decide +kernel
set_option maxRecDepth 20000 in
theorem ggX6_init_X6_clearTold : GoodIn wsX6_init wsX6_clearTold := goodIn_r _ [22, 11, 17, 59, 60, 61, 62, 63, 64, 65, 66, 67, 68, 69, 70, 71, 72, 73, 74, 75, 76, 77, 78, 79] (by decide +kernel) (by decide +kernel)
set_option maxRecDepth 20000 in
theorem gX6_init_X6_clearTold : GoodIn wsX6_init (wsV RX6 46 RX6 yX6_clearTold wsX6_clearTold) := goodIn_app (goodIn_of _ (by decide +kernel)) ggX6_init_X6_clearTold
set_option maxRecDepth 20000 in
theorem ggX6_init_X6_tellsSaying : GoodIn wsX6_init wsX6_tellsSaying := goodIn_r _ [26, 11, 27, 28, 21, 29, 59, 60, 61, 62, 63, 64, 65, 66, 67, 68, 69, 70, 71, 72, 73, 74, 75, 76, 77, 78, 79] (by decide +kernel) (by decide +kernel)
set_option maxRecDepth 20000 in
theorem gX6_init_X6_tellsSaying : GoodIn wsX6_init (wsV RX6 49 RX6 yX6_tellsSaying wsX6_tellsSaying) := goodIn_app (goodIn_of _ (by decide +kernel)) ggX6_init_X6_tellsSaying
set_option maxRecDepth 20000 in
theorem ggX6_init_X6_settles : GoodIn wsX6_init wsX6_settles := goodIn_r _ [33, 17, 34, 12, 11, 5, 35, 36, 37, 38, 39, 21, 40, 41, 42, 43, 44, 45, 46, 47, 48, 49, 50, 51, 52, 53, 54, 55, 56, 57, 58, 59, 60, 61, 62, 63, 64, 65, 66, 67, 68, 69, 70, 71, 72, 73, 74, 75, 76, 77, 78, 79] (by decide +kernel) (by decide +kernel)
set_option maxRecDepth 20000 in
theorem gX6_init_X6_settles : GoodIn wsX6_init (wsV RX6 57 RX6 yX6_settles wsX6_settles) := goodIn_app (goodIn_of _ (by decide +kernel)) ggX6_init_X6_settles
theorem dX6_init_0 : decode cX6_init 0 = .ok (.aload_n 0, 1) := by decide +kernel
theorem dX6_init_1 : decode cX6_init 1 = .ok (.invokespecial 1, 3) := by decide +kernel
theorem dX6_init_4 : decode cX6_init 4 = .ok (.aload_n 0, 1) := by decide +kernel
theorem dX6_init_5 : decode cX6_init 5 = .ok (.bipush 49, 2) := by decide +kernel
theorem dX6_init_7 : decode cX6_init 7 = .ok (.newarray .int, 2) := by decide +kernel
theorem dX6_init_9 : decode cX6_init 9 = .ok (.putfield 7, 3) := by decide +kernel
theorem dX6_init_12 : decode cX6_init 12 = .ok (.aload_n 0, 1) := by decide +kernel
theorem dX6_init_13 : decode cX6_init 13 = .ok (.sipush 392, 3) := by decide +kernel
theorem dX6_init_16 : decode cX6_init 16 = .ok (.newarray .int, 2) := by decide +kernel
theorem dX6_init_18 : decode cX6_init 18 = .ok (.putfield 13, 3) := by decide +kernel
theorem dX6_init_21 : decode cX6_init 21 = .ok (.aload_n 0, 1) := by decide +kernel
theorem dX6_init_22 : decode cX6_init 22 = .ok (.bipush 98, 2) := by decide +kernel
theorem dX6_init_24 : decode cX6_init 24 = .ok (.newarray .int, 2) := by decide +kernel
theorem dX6_init_26 : decode cX6_init 26 = .ok (.putfield 16, 3) := by decide +kernel
theorem dX6_init_29 : decode cX6_init 29 = .ok (.aload_n 0, 1) := by decide +kernel
theorem dX6_init_30 : decode cX6_init 30 = .ok (.bipush 12, 2) := by decide +kernel
theorem dX6_init_32 : decode cX6_init 32 = .ok (.newarray .int, 2) := by decide +kernel
theorem dX6_init_34 : decode cX6_init 34 = .ok (.putfield 19, 3) := by decide +kernel
theorem dX6_init_37 : decode cX6_init 37 = .ok (.aload_n 0, 1) := by decide +kernel
theorem dX6_init_38 : decode cX6_init 38 = .ok (.sipush 200, 3) := by decide +kernel
theorem dX6_init_41 : decode cX6_init 41 = .ok (.newarray .int, 2) := by decide +kernel
theorem dX6_init_43 : decode cX6_init 43 = .ok (.putfield 22, 3) := by decide +kernel
theorem dX6_init_46 : decode cX6_init 46 = .ok (.aload_n 0, 1) := by decide +kernel
theorem dX6_init_47 : decode cX6_init 47 = .ok (.iconst 4, 1) := by decide +kernel
theorem dX6_init_48 : decode cX6_init 48 = .ok (.newarray .int, 2) := by decide +kernel
theorem dX6_init_50 : decode cX6_init 50 = .ok (.putfield 25, 3) := by decide +kernel
theorem dX6_init_53 : decode cX6_init 53 = .ok (.aload_n 0, 1) := by decide +kernel
theorem dX6_init_54 : decode cX6_init 54 = .ok (.bipush 49, 2) := by decide +kernel
theorem dX6_init_56 : decode cX6_init 56 = .ok (.newarray .int, 2) := by decide +kernel
theorem dX6_init_58 : decode cX6_init 58 = .ok (.putfield 28, 3) := by decide +kernel
theorem dX6_init_61 : decode cX6_init 61 = .ok (.aload_n 0, 1) := by decide +kernel
theorem dX6_init_62 : decode cX6_init 62 = .ok (.bipush 49, 2) := by decide +kernel
theorem dX6_init_64 : decode cX6_init 64 = .ok (.newarray .int, 2) := by decide +kernel
theorem dX6_init_66 : decode cX6_init 66 = .ok (.putfield 31, 3) := by decide +kernel
theorem dX6_init_69 : decode cX6_init 69 = .ok (.aload_n 0, 1) := by decide +kernel
theorem dX6_init_70 : decode cX6_init 70 = .ok (.bipush 64, 2) := by decide +kernel
theorem dX6_init_72 : decode cX6_init 72 = .ok (.newarray .int, 2) := by decide +kernel
theorem dX6_init_74 : decode cX6_init 74 = .ok (.putfield 34, 3) := by decide +kernel
theorem dX6_init_77 : decode cX6_init 77 = .ok (.aload_n 0, 1) := by decide +kernel
theorem dX6_init_78 : decode cX6_init 78 = .ok (.sipush 512, 3) := by decide +kernel
theorem dX6_init_81 : decode cX6_init 81 = .ok (.newarray .int, 2) := by decide +kernel
theorem dX6_init_83 : decode cX6_init 83 = .ok (.putfield 37, 3) := by decide +kernel
theorem dX6_init_86 : decode cX6_init 86 = .ok (.aload_n 0, 1) := by decide +kernel
theorem dX6_init_87 : decode cX6_init 87 = .ok (.bipush 64, 2) := by decide +kernel
theorem dX6_init_89 : decode cX6_init 89 = .ok (.newarray .int, 2) := by decide +kernel
theorem dX6_init_91 : decode cX6_init 91 = .ok (.putfield 40, 3) := by decide +kernel
theorem dX6_init_94 : decode cX6_init 94 = .ok (.aload_n 0, 1) := by decide +kernel
theorem dX6_init_95 : decode cX6_init 95 = .ok (.bipush 64, 2) := by decide +kernel
theorem dX6_init_97 : decode cX6_init 97 = .ok (.newarray .int, 2) := by decide +kernel
theorem dX6_init_99 : decode cX6_init 99 = .ok (.putfield 43, 3) := by decide +kernel
theorem dX6_init_102 : decode cX6_init 102 = .ok (.aload_n 0, 1) := by decide +kernel
theorem dX6_init_103 : decode cX6_init 103 = .ok (.invokevirtual 46, 3) := by decide +kernel
theorem dX6_init_106 : decode cX6_init 106 = .ok (.aload_n 0, 1) := by decide +kernel
theorem dX6_init_107 : decode cX6_init 107 = .ok (.getfield 28, 3) := by decide +kernel
theorem dX6_init_110 : decode cX6_init 110 = .ok (.iconst 0, 1) := by decide +kernel
theorem dX6_init_111 : decode cX6_init 111 = .ok (.bipush 37, 2) := by decide +kernel
theorem dX6_init_113 : decode cX6_init 113 = .ok (.iastore, 1) := by decide +kernel
theorem dX6_init_114 : decode cX6_init 114 = .ok (.aload_n 0, 1) := by decide +kernel
theorem dX6_init_115 : decode cX6_init 115 = .ok (.iconst 0, 1) := by decide +kernel
theorem dX6_init_116 : decode cX6_init 116 = .ok (.iconst 1, 1) := by decide +kernel
theorem dX6_init_117 : decode cX6_init 117 = .ok (.iconst 0, 1) := by decide +kernel
theorem dX6_init_118 : decode cX6_init 118 = .ok (.iconst 0, 1) := by decide +kernel
theorem dX6_init_119 : decode cX6_init 119 = .ok (.invokevirtual 49, 3) := by decide +kernel
theorem dX6_init_122 : decode cX6_init 122 = .ok (.aload_n 0, 1) := by decide +kernel
theorem dX6_init_123 : decode cX6_init 123 = .ok (.iconst 1, 1) := by decide +kernel
theorem dX6_init_124 : decode cX6_init 124 = .ok (.iconst 0, 1) := by decide +kernel
theorem dX6_init_125 : decode cX6_init 125 = .ok (.iconst 3, 1) := by decide +kernel
theorem dX6_init_126 : decode cX6_init 126 = .ok (.iconst 1, 1) := by decide +kernel
theorem dX6_init_127 : decode cX6_init 127 = .ok (.invokevirtual 49, 3) := by decide +kernel
theorem dX6_init_130 : decode cX6_init 130 = .ok (.aload_n 0, 1) := by decide +kernel
theorem dX6_init_131 : decode cX6_init 131 = .ok (.iconst 2, 1) := by decide +kernel
theorem dX6_init_132 : decode cX6_init 132 = .ok (.bipush 7, 2) := by decide +kernel
theorem dX6_init_134 : decode cX6_init 134 = .ok (.iconst 4, 1) := by decide +kernel
theorem dX6_init_135 : decode cX6_init 135 = .ok (.iconst 2, 1) := by decide +kernel
theorem dX6_init_136 : decode cX6_init 136 = .ok (.invokevirtual 49, 3) := by decide +kernel
theorem dX6_init_139 : decode cX6_init 139 = .ok (.aload_n 0, 1) := by decide +kernel
theorem dX6_init_140 : decode cX6_init 140 = .ok (.iconst 3, 1) := by decide +kernel
theorem dX6_init_141 : decode cX6_init 141 = .ok (.iconst 0, 1) := by decide +kernel
theorem dX6_init_142 : decode cX6_init 142 = .ok (.iconst 1, 1) := by decide +kernel
theorem dX6_init_143 : decode cX6_init 143 = .ok (.iconst 0, 1) := by decide +kernel
theorem dX6_init_144 : decode cX6_init 144 = .ok (.invokevirtual 49, 3) := by decide +kernel
theorem dX6_init_147 : decode cX6_init 147 = .ok (.aload_n 0, 1) := by decide +kernel
theorem dX6_init_148 : decode cX6_init 148 = .ok (.iconst 4, 1) := by decide +kernel
theorem dX6_init_149 : decode cX6_init 149 = .ok (.iconst 2, 1) := by decide +kernel
theorem dX6_init_150 : decode cX6_init 150 = .ok (.iconst 5, 1) := by decide +kernel
theorem dX6_init_151 : decode cX6_init 151 = .ok (.iconst 3, 1) := by decide +kernel
theorem dX6_init_152 : decode cX6_init 152 = .ok (.invokevirtual 49, 3) := by decide +kernel
theorem dX6_init_155 : decode cX6_init 155 = .ok (.aload_n 0, 1) := by decide +kernel
theorem dX6_init_156 : decode cX6_init 156 = .ok (.iconst 1, 1) := by decide +kernel
theorem dX6_init_157 : decode cX6_init 157 = .ok (.iconst 4, 1) := by decide +kernel
theorem dX6_init_158 : decode cX6_init 158 = .ok (.iconst 1, 1) := by decide +kernel
theorem dX6_init_159 : decode cX6_init 159 = .ok (.iconst 1, 1) := by decide +kernel
theorem dX6_init_160 : decode cX6_init 160 = .ok (.invokevirtual 49, 3) := by decide +kernel
theorem dX6_init_163 : decode cX6_init 163 = .ok (.aload_n 0, 1) := by decide +kernel
theorem dX6_init_164 : decode cX6_init 164 = .ok (.iconst 0, 1) := by decide +kernel
theorem dX6_init_165 : decode cX6_init 165 = .ok (.bipush 10, 2) := by decide +kernel
theorem dX6_init_167 : decode cX6_init 167 = .ok (.iconst 0, 1) := by decide +kernel
theorem dX6_init_168 : decode cX6_init 168 = .ok (.iconst 4, 1) := by decide +kernel
theorem dX6_init_169 : decode cX6_init 169 = .ok (.invokevirtual 49, 3) := by decide +kernel
theorem dX6_init_172 : decode cX6_init 172 = .ok (.aload_n 0, 1) := by decide +kernel
theorem dX6_init_173 : decode cX6_init 173 = .ok (.iconst 3, 1) := by decide +kernel
theorem dX6_init_174 : decode cX6_init 174 = .ok (.iconst 2, 1) := by decide +kernel
theorem dX6_init_175 : decode cX6_init 175 = .ok (.bipush 8, 2) := by decide +kernel
theorem dX6_init_177 : decode cX6_init 177 = .ok (.iconst 2, 1) := by decide +kernel
theorem dX6_init_178 : decode cX6_init 178 = .ok (.invokevirtual 49, 3) := by decide +kernel
theorem dX6_init_181 : decode cX6_init 181 = .ok (.aload_n 0, 1) := by decide +kernel
theorem dX6_init_182 : decode cX6_init 182 = .ok (.iconst 3, 1) := by decide +kernel
theorem dX6_init_183 : decode cX6_init 183 = .ok (.putfield 53, 3) := by decide +kernel
theorem dX6_init_186 : decode cX6_init 186 = .ok (.aload_n 0, 1) := by decide +kernel
theorem dX6_init_187 : decode cX6_init 187 = .ok (.invokevirtual 57, 3) := by decide +kernel
theorem dX6_init_190 : decode cX6_init 190 = .ok (.return_, 1) := by decide +kernel
set_option maxRecDepth 20000 in
theorem ggX6_tellsSaying_X6_puts : GoodIn wsX6_tellsSaying wsX6_puts := goodIn_r _ [5] (by decide +kernel) (by decide +kernel)
set_option maxRecDepth 20000 in
theorem gX6_tellsSaying_X6_puts : GoodIn wsX6_tellsSaying (va_wsS RX6 60 yX6_puts wsX6_puts) := goodIn_app (goodIn_of _ (by decide +kernel)) ggX6_tellsSaying_X6_puts
theorem dX6_tellsSaying_0 : decode cX6_tellsSaying 0 = .ok (.aload_n 0, 1) := by decide +kernel
theorem dX6_tellsSaying_1 : decode cX6_tellsSaying 1 = .ok (.getfield 28, 3) := by decide +kernel
theorem dX6_tellsSaying_4 : decode cX6_tellsSaying 4 = .ok (.iload_n 1, 1) := by decide +kernel
theorem dX6_tellsSaying_5 : decode cX6_tellsSaying 5 = .ok (.iload_n 2, 1) := by decide +kernel
theorem dX6_tellsSaying_6 : decode cX6_tellsSaying 6 = .ok (.iload_n 3, 1) := by decide +kernel
theorem dX6_tellsSaying_7 : decode cX6_tellsSaying 7 = .ok (.iload 4, 2) := by decide +kernel
theorem dX6_tellsSaying_9 : decode cX6_tellsSaying 9 = .ok (.invokestatic 60, 3) := by decide +kernel
theorem dX6_tellsSaying_12 : decode cX6_tellsSaying 12 = .ok (.return_, 1) := by decide +kernel
theorem dX6_puts_0 : decode cX6_puts 0 = .ok (.iconst 4, 1) := by decide +kernel
theorem dX6_puts_1 : decode cX6_puts 1 = .ok (.iconst 4, 1) := by decide +kernel
theorem dX6_puts_2 : decode cX6_puts 2 = .ok (.aload_n 0, 1) := by decide +kernel
theorem dX6_puts_3 : decode cX6_puts 3 = .ok (.iconst 2, 1) := by decide +kernel
theorem dX6_puts_4 : decode cX6_puts 4 = .ok (.iaload, 1) := by decide +kernel
theorem dX6_puts_5 : decode cX6_puts 5 = .ok (.imul, 1) := by decide +kernel
theorem dX6_puts_6 : decode cX6_puts 6 = .ok (.iadd, 1) := by decide +kernel
theorem dX6_puts_7 : decode cX6_puts 7 = .ok (.istore 5, 2) := by decide +kernel
theorem dX6_puts_9 : decode cX6_puts 9 = .ok (.aload_n 0, 1) := by decide +kernel
theorem dX6_puts_10 : decode cX6_puts 10 = .ok (.iload 5, 2) := by decide +kernel
theorem dX6_puts_12 : decode cX6_puts 12 = .ok (.iload_n 1, 1) := by decide +kernel
theorem dX6_puts_13 : decode cX6_puts 13 = .ok (.iastore, 1) := by decide +kernel
theorem dX6_puts_14 : decode cX6_puts 14 = .ok (.aload_n 0, 1) := by decide +kernel
theorem dX6_puts_15 : decode cX6_puts 15 = .ok (.iload 5, 2) := by decide +kernel
theorem dX6_puts_17 : decode cX6_puts 17 = .ok (.iconst 1, 1) := by decide +kernel
theorem dX6_puts_18 : decode cX6_puts 18 = .ok (.iadd, 1) := by decide +kernel
theorem dX6_puts_19 : decode cX6_puts 19 = .ok (.iload_n 2, 1) := by decide +kernel
theorem dX6_puts_20 : decode cX6_puts 20 = .ok (.iastore, 1) := by decide +kernel
theorem dX6_puts_21 : decode cX6_puts 21 = .ok (.aload_n 0, 1) := by decide +kernel
theorem dX6_puts_22 : decode cX6_puts 22 = .ok (.iload 5, 2) := by decide +kernel
theorem dX6_puts_24 : decode cX6_puts 24 = .ok (.iconst 2, 1) := by decide +kernel
theorem dX6_puts_25 : decode cX6_puts 25 = .ok (.iadd, 1) := by decide +kernel
theorem dX6_puts_26 : decode cX6_puts 26 = .ok (.iload_n 1, 1) := by decide +kernel
theorem dX6_puts_27 : decode cX6_puts 27 = .ok (.ifCond .ne 8, 3) := by decide +kernel
theorem dX6_puts_30 : decode cX6_puts 30 = .ok (.bipush (-4), 2) := by decide +kernel
theorem dX6_puts_32 : decode cX6_puts 32 = .ok (.goto 4, 3) := by decide +kernel
theorem dX6_puts_35 : decode cX6_puts 35 = .ok (.iload_n 3, 1) := by decide +kernel
theorem dX6_puts_36 : decode cX6_puts 36 = .ok (.iastore, 1) := by decide +kernel
theorem dX6_puts_37 : decode cX6_puts 37 = .ok (.aload_n 0, 1) := by decide +kernel
theorem dX6_puts_38 : decode cX6_puts 38 = .ok (.iload 5, 2) := by decide +kernel
theorem dX6_puts_40 : decode cX6_puts 40 = .ok (.iconst 3, 1) := by decide +kernel
theorem dX6_puts_41 : decode cX6_puts 41 = .ok (.iadd, 1) := by decide +kernel
theorem dX6_puts_42 : decode cX6_puts 42 = .ok (.iload 4, 2) := by decide +kernel
theorem dX6_puts_44 : decode cX6_puts 44 = .ok (.iastore, 1) := by decide +kernel
theorem dX6_puts_45 : decode cX6_puts 45 = .ok (.aload_n 0, 1) := by decide +kernel
theorem dX6_puts_46 : decode cX6_puts 46 = .ok (.bipush 40, 2) := by decide +kernel
theorem dX6_puts_48 : decode cX6_puts 48 = .ok (.aload_n 0, 1) := by decide +kernel
theorem dX6_puts_49 : decode cX6_puts 49 = .ok (.iconst 2, 1) := by decide +kernel
theorem dX6_puts_50 : decode cX6_puts 50 = .ok (.iaload, 1) := by decide +kernel
theorem dX6_puts_51 : decode cX6_puts 51 = .ok (.iadd, 1) := by decide +kernel
theorem dX6_puts_52 : decode cX6_puts 52 = .ok (.iconst (-1), 1) := by decide +kernel
theorem dX6_puts_53 : decode cX6_puts 53 = .ok (.iastore, 1) := by decide +kernel
theorem dX6_puts_54 : decode cX6_puts 54 = .ok (.aload_n 0, 1) := by decide +kernel
theorem dX6_puts_55 : decode cX6_puts 55 = .ok (.iconst 2, 1) := by decide +kernel
theorem dX6_puts_56 : decode cX6_puts 56 = .ok (.dup2, 1) := by decide +kernel
theorem dX6_puts_57 : decode cX6_puts 57 = .ok (.iaload, 1) := by decide +kernel
theorem dX6_puts_58 : decode cX6_puts 58 = .ok (.iconst 1, 1) := by decide +kernel
theorem dX6_puts_59 : decode cX6_puts 59 = .ok (.iadd, 1) := by decide +kernel
theorem dX6_puts_60 : decode cX6_puts 60 = .ok (.iastore, 1) := by decide +kernel
theorem dX6_puts_61 : decode cX6_puts 61 = .ok (.return_, 1) := by decide +kernel
theorem dX6_in_0 : decode cX6_in 0 = .ok (.iload_n 0, 1) := by decide +kernel
theorem dX6_in_1 : decode cX6_in 1 = .ok (.iload_n 1, 1) := by decide +kernel
theorem dX6_in_2 : decode cX6_in 2 = .ok (.if_icmp .lt 12, 3) := by decide +kernel
theorem dX6_in_5 : decode cX6_in 5 = .ok (.iload_n 0, 1) := by decide +kernel
theorem dX6_in_6 : decode cX6_in 6 = .ok (.iload_n 2, 1) := by decide +kernel
theorem dX6_in_7 : decode cX6_in 7 = .ok (.if_icmp .gt 7, 3) := by decide +kernel
theorem dX6_in_10 : decode cX6_in 10 = .ok (.iconst 1, 1) := by decide +kernel
theorem dX6_in_11 : decode cX6_in 11 = .ok (.goto 4, 3) := by decide +kernel
theorem dX6_in_14 : decode cX6_in 14 = .ok (.iconst 0, 1) := by decide +kernel
theorem dX6_in_15 : decode cX6_in 15 = .ok (.ireturn, 1) := by decide +kernel
theorem dX6_has_0 : decode cX6_has 0 = .ok (.iload_n 0, 1) := by decide +kernel
theorem dX6_has_1 : decode cX6_has 1 = .ok (.iload_n 1, 1) := by decide +kernel
theorem dX6_has_2 : decode cX6_has 2 = .ok (.ishr, 1) := by decide +kernel
theorem dX6_has_3 : decode cX6_has 3 = .ok (.iconst 1, 1) := by decide +kernel
theorem dX6_has_4 : decode cX6_has 4 = .ok (.iand, 1) := by decide +kernel
theorem dX6_has_5 : decode cX6_has 5 = .ok (.iconst 1, 1) := by decide +kernel
theorem dX6_has_6 : decode cX6_has 6 = .ok (.if_icmp .ne 7, 3) := by decide +kernel
theorem dX6_has_9 : decode cX6_has 9 = .ok (.iconst 1, 1) := by decide +kernel
theorem dX6_has_10 : decode cX6_has 10 = .ok (.goto 4, 3) := by decide +kernel
theorem dX6_has_13 : decode cX6_has 13 = .ok (.iconst 0, 1) := by decide +kernel
theorem dX6_has_14 : decode cX6_has 14 = .ok (.ireturn, 1) := by decide +kernel
theorem dX6_bits_0 : decode cX6_bits 0 = .ok (.iconst 0, 1) := by decide +kernel
theorem dX6_bits_1 : decode cX6_bits 1 = .ok (.istore_n 1, 1) := by decide +kernel
theorem dX6_bits_2 : decode cX6_bits 2 = .ok (.iconst 0, 1) := by decide +kernel
theorem dX6_bits_3 : decode cX6_bits 3 = .ok (.istore_n 2, 1) := by decide +kernel
theorem dX6_bits_4 : decode cX6_bits 4 = .ok (.iload_n 2, 1) := by decide +kernel
theorem dX6_bits_5 : decode cX6_bits 5 = .ok (.bipush 9, 2) := by decide +kernel
theorem dX6_bits_7 : decode cX6_bits 7 = .ok (.if_icmp .ge 17, 3) := by decide +kernel
theorem dX6_bits_10 : decode cX6_bits 10 = .ok (.iload_n 1, 1) := by decide +kernel
theorem dX6_bits_11 : decode cX6_bits 11 = .ok (.iload_n 0, 1) := by decide +kernel
theorem dX6_bits_12 : decode cX6_bits 12 = .ok (.iload_n 2, 1) := by decide +kernel
theorem dX6_bits_13 : decode cX6_bits 13 = .ok (.ishr, 1) := by decide +kernel
theorem dX6_bits_14 : decode cX6_bits 14 = .ok (.iconst 1, 1) := by decide +kernel
theorem dX6_bits_15 : decode cX6_bits 15 = .ok (.iand, 1) := by decide +kernel
theorem dX6_bits_16 : decode cX6_bits 16 = .ok (.iadd, 1) := by decide +kernel
theorem dX6_bits_17 : decode cX6_bits 17 = .ok (.istore_n 1, 1) := by decide +kernel
theorem dX6_bits_18 : decode cX6_bits 18 = .ok (.iinc 2 1, 3) := by decide +kernel
theorem dX6_bits_21 : decode cX6_bits 21 = .ok (.goto (-17), 3) := by decide +kernel
theorem dX6_bits_24 : decode cX6_bits 24 = .ok (.iload_n 1, 1) := by decide +kernel
theorem dX6_bits_25 : decode cX6_bits 25 = .ok (.ireturn, 1) := by decide +kernel
set_option maxRecDepth 20000 in
theorem ggX6_isSaying_X6_in : GoodIn wsX6_isSaying wsX6_in := goodIn_r _ [5] (by decide +kernel) (by decide +kernel)
set_option maxRecDepth 20000 in
theorem gX6_isSaying_X6_in : GoodIn wsX6_isSaying (va_wsS RX6 64 yX6_in wsX6_in) := goodIn_app (goodIn_of _ (by decide +kernel)) ggX6_isSaying_X6_in
theorem dX6_isSaying_0 : decode cX6_isSaying 0 = .ok (.iload_n 1, 1) := by decide +kernel
theorem dX6_isSaying_1 : decode cX6_isSaying 1 = .ok (.iconst 0, 1) := by decide +kernel
theorem dX6_isSaying_2 : decode cX6_isSaying 2 = .ok (.aload_n 0, 1) := by decide +kernel
theorem dX6_isSaying_3 : decode cX6_isSaying 3 = .ok (.getfield 7, 3) := by decide +kernel
theorem dX6_isSaying_6 : decode cX6_isSaying 6 = .ok (.iconst 2, 1) := by decide +kernel
theorem dX6_isSaying_7 : decode cX6_isSaying 7 = .ok (.iaload, 1) := by decide +kernel
theorem dX6_isSaying_8 : decode cX6_isSaying 8 = .ok (.iconst 1, 1) := by decide +kernel
theorem dX6_isSaying_9 : decode cX6_isSaying 9 = .ok (.isub, 1) := by decide +kernel
theorem dX6_isSaying_10 : decode cX6_isSaying 10 = .ok (.invokestatic 64, 3) := by decide +kernel
theorem dX6_isSaying_13 : decode cX6_isSaying 13 = .ok (.ireturn, 1) := by decide +kernel
set_option maxRecDepth 20000 in
theorem ggX6_isFact_X6_in : GoodIn wsX6_isFact wsX6_in := goodIn_r _ [4] (by decide +kernel) (by decide +kernel)
set_option maxRecDepth 20000 in
theorem gX6_isFact_X6_in : GoodIn wsX6_isFact (va_wsS RX6 64 yX6_in wsX6_in) := goodIn_app (goodIn_of _ (by decide +kernel)) ggX6_isFact_X6_in
theorem dX6_isFact_0 : decode cX6_isFact 0 = .ok (.iload_n 0, 1) := by decide +kernel
theorem dX6_isFact_1 : decode cX6_isFact 1 = .ok (.iconst 0, 1) := by decide +kernel
theorem dX6_isFact_2 : decode cX6_isFact 2 = .ok (.iconst 5, 1) := by decide +kernel
theorem dX6_isFact_3 : decode cX6_isFact 3 = .ok (.invokestatic 64, 3) := by decide +kernel
theorem dX6_isFact_6 : decode cX6_isFact 6 = .ok (.ireturn, 1) := by decide +kernel
set_option maxRecDepth 20000 in
theorem ggX6_write_X6_in : GoodIn wsX6_write wsX6_in := goodIn_r _ [6] (by decide +kernel) (by decide +kernel)
set_option maxRecDepth 20000 in
theorem gX6_write_X6_in : GoodIn wsX6_write (va_wsS RX6 64 yX6_in wsX6_in) := goodIn_app (goodIn_of _ (by decide +kernel)) ggX6_write_X6_in
theorem dX6_write_0 : decode cX6_write 0 = .ok (.iload_n 1, 1) := by decide +kernel
theorem dX6_write_1 : decode cX6_write 1 = .ok (.bipush 32, 2) := by decide +kernel
theorem dX6_write_3 : decode cX6_write 3 = .ok (.bipush 126, 2) := by decide +kernel
theorem dX6_write_5 : decode cX6_write 5 = .ok (.invokestatic 64, 3) := by decide +kernel
theorem dX6_write_8 : decode cX6_write 8 = .ok (.ifCond .ne 5, 3) := by decide +kernel
theorem dX6_write_11 : decode cX6_write 11 = .ok (.iconst (-1), 1) := by decide +kernel
theorem dX6_write_12 : decode cX6_write 12 = .ok (.ireturn, 1) := by decide +kernel
theorem dX6_write_13 : decode cX6_write 13 = .ok (.aload_n 0, 1) := by decide +kernel
theorem dX6_write_14 : decode cX6_write 14 = .ok (.getfield 68, 3) := by decide +kernel
theorem dX6_write_17 : decode cX6_write 17 = .ok (.sipush 200, 3) := by decide +kernel
theorem dX6_write_20 : decode cX6_write 20 = .ok (.if_icmp .ne 6, 3) := by decide +kernel
theorem dX6_write_23 : decode cX6_write 23 = .ok (.bipush (-3), 2) := by decide +kernel
theorem dX6_write_25 : decode cX6_write 25 = .ok (.ireturn, 1) := by decide +kernel
theorem dX6_write_26 : decode cX6_write 26 = .ok (.aload_n 0, 1) := by decide +kernel
theorem dX6_write_27 : decode cX6_write 27 = .ok (.getfield 22, 3) := by decide +kernel
theorem dX6_write_30 : decode cX6_write 30 = .ok (.aload_n 0, 1) := by decide +kernel
theorem dX6_write_31 : decode cX6_write 31 = .ok (.getfield 68, 3) := by decide +kernel
theorem dX6_write_34 : decode cX6_write 34 = .ok (.iload_n 1, 1) := by decide +kernel
theorem dX6_write_35 : decode cX6_write 35 = .ok (.iastore, 1) := by decide +kernel
theorem dX6_write_36 : decode cX6_write 36 = .ok (.aload_n 0, 1) := by decide +kernel
theorem dX6_write_37 : decode cX6_write 37 = .ok (.dup, 1) := by decide +kernel
theorem dX6_write_38 : decode cX6_write 38 = .ok (.getfield 68, 3) := by decide +kernel
theorem dX6_write_41 : decode cX6_write 41 = .ok (.iconst 1, 1) := by decide +kernel
theorem dX6_write_42 : decode cX6_write 42 = .ok (.iadd, 1) := by decide +kernel
theorem dX6_write_43 : decode cX6_write 43 = .ok (.putfield 68, 3) := by decide +kernel
theorem dX6_write_46 : decode cX6_write 46 = .ok (.aload_n 0, 1) := by decide +kernel
theorem dX6_write_47 : decode cX6_write 47 = .ok (.getfield 68, 3) := by decide +kernel
theorem dX6_write_50 : decode cX6_write 50 = .ok (.ireturn, 1) := by decide +kernel
theorem dX6_wipe_0 : decode cX6_wipe 0 = .ok (.aload_n 0, 1) := by decide +kernel
theorem dX6_wipe_1 : decode cX6_wipe 1 = .ok (.getfield 68, 3) := by decide +kernel
theorem dX6_wipe_4 : decode cX6_wipe 4 = .ok (.istore_n 1, 1) := by decide +kernel
theorem dX6_wipe_5 : decode cX6_wipe 5 = .ok (.aload_n 0, 1) := by decide +kernel
theorem dX6_wipe_6 : decode cX6_wipe 6 = .ok (.iconst 0, 1) := by decide +kernel
theorem dX6_wipe_7 : decode cX6_wipe 7 = .ok (.putfield 68, 3) := by decide +kernel
theorem dX6_wipe_10 : decode cX6_wipe 10 = .ok (.iload_n 1, 1) := by decide +kernel
theorem dX6_wipe_11 : decode cX6_wipe 11 = .ok (.ireturn, 1) := by decide +kernel
theorem dX6_letterAt_0 : decode cX6_letterAt 0 = .ok (.iload_n 1, 1) := by decide +kernel
theorem dX6_letterAt_1 : decode cX6_letterAt 1 = .ok (.aload_n 0, 1) := by decide +kernel
theorem dX6_letterAt_2 : decode cX6_letterAt 2 = .ok (.getfield 68, 3) := by decide +kernel
theorem dX6_letterAt_5 : decode cX6_letterAt 5 = .ok (.if_icmp .ge 12, 3) := by decide +kernel
theorem dX6_letterAt_8 : decode cX6_letterAt 8 = .ok (.aload_n 0, 1) := by decide +kernel
theorem dX6_letterAt_9 : decode cX6_letterAt 9 = .ok (.getfield 22, 3) := by decide +kernel
theorem dX6_letterAt_12 : decode cX6_letterAt 12 = .ok (.iload_n 1, 1) := by decide +kernel
theorem dX6_letterAt_13 : decode cX6_letterAt 13 = .ok (.iaload, 1) := by decide +kernel
theorem dX6_letterAt_14 : decode cX6_letterAt 14 = .ok (.goto 4, 3) := by decide +kernel
theorem dX6_letterAt_17 : decode cX6_letterAt 17 = .ok (.iconst (-1), 1) := by decide +kernel
theorem dX6_letterAt_18 : decode cX6_letterAt 18 = .ok (.ireturn, 1) := by decide +kernel
set_option maxRecDepth 20000 in
theorem ggX6_isFigure_X6_in : GoodIn wsX6_isFigure wsX6_in := goodIn_r _ [4] (by decide +kernel) (by decide +kernel)
set_option maxRecDepth 20000 in
theorem gX6_isFigure_X6_in : GoodIn wsX6_isFigure (va_wsS RX6 64 yX6_in wsX6_in) := goodIn_app (goodIn_of _ (by decide +kernel)) ggX6_isFigure_X6_in
theorem dX6_isFigure_0 : decode cX6_isFigure 0 = .ok (.iload_n 0, 1) := by decide +kernel
theorem dX6_isFigure_1 : decode cX6_isFigure 1 = .ok (.bipush 48, 2) := by decide +kernel
theorem dX6_isFigure_3 : decode cX6_isFigure 3 = .ok (.bipush 57, 2) := by decide +kernel
theorem dX6_isFigure_5 : decode cX6_isFigure 5 = .ok (.invokestatic 64, 3) := by decide +kernel
theorem dX6_isFigure_8 : decode cX6_isFigure 8 = .ok (.ireturn, 1) := by decide +kernel
set_option maxRecDepth 20000 in
theorem ggX6_readNumbers_X6_letterAt : GoodIn wsX6_readNumbers wsX6_letterAt := goodIn_r _ [7, 8, 9, 16, 17, 18, 19, 20, 21, 22, 23, 24, 25, 26, 27, 28, 29, 30, 31, 32, 33, 34, 35, 36] (by decide +kernel) (by decide +kernel)
set_option maxRecDepth 20000 in
theorem gX6_readNumbers_X6_letterAt : GoodIn wsX6_readNumbers (wsV RX6 74 RX6 yX6_letterAt wsX6_letterAt) := goodIn_app (goodIn_of _ (by decide +kernel)) ggX6_readNumbers_X6_letterAt
set_option maxRecDepth 20000 in
theorem ggX6_readNumbers_X6_isFigure : GoodIn wsX6_readNumbers wsX6_isFigure := goodIn_r _ [12, 13, 14, 6, 15] (by decide +kernel) (by decide +kernel)
set_option maxRecDepth 20000 in
theorem gX6_readNumbers_X6_isFigure : GoodIn wsX6_readNumbers (va_wsS RX6 78 yX6_isFigure wsX6_isFigure) := goodIn_app (goodIn_of _ (by decide +kernel)) ggX6_readNumbers_X6_isFigure
theorem dX6_readNumbers_0 : decode cX6_readNumbers 0 = .ok (.iconst 0, 1) := by decide +kernel
theorem dX6_readNumbers_1 : decode cX6_readNumbers 1 = .ok (.istore_n 2, 1) := by decide +kernel
theorem dX6_readNumbers_2 : decode cX6_readNumbers 2 = .ok (.iload_n 2, 1) := by decide +kernel
theorem dX6_readNumbers_3 : decode cX6_readNumbers 3 = .ok (.iload_n 1, 1) := by decide +kernel
theorem dX6_readNumbers_4 : decode cX6_readNumbers 4 = .ok (.if_icmp .ge 140, 3) := by decide +kernel
theorem dX6_readNumbers_7 : decode cX6_readNumbers 7 = .ok (.aload_n 0, 1) := by decide +kernel
theorem dX6_readNumbers_8 : decode cX6_readNumbers 8 = .ok (.aload_n 0, 1) := by decide +kernel
theorem dX6_readNumbers_9 : decode cX6_readNumbers 9 = .ok (.getfield 71, 3) := by decide +kernel
theorem dX6_readNumbers_12 : decode cX6_readNumbers 12 = .ok (.invokevirtual 74, 3) := by decide +kernel
theorem dX6_readNumbers_15 : decode cX6_readNumbers 15 = .ok (.invokestatic 78, 3) := by decide +kernel
theorem dX6_readNumbers_18 : decode cX6_readNumbers 18 = .ok (.ifCond .ne 5, 3) := by decide +kernel
theorem dX6_readNumbers_21 : decode cX6_readNumbers 21 = .ok (.iconst 0, 1) := by decide +kernel
theorem dX6_readNumbers_22 : decode cX6_readNumbers 22 = .ok (.ireturn, 1) := by decide +kernel
theorem dX6_readNumbers_23 : decode cX6_readNumbers 23 = .ok (.aload_n 0, 1) := by decide +kernel
theorem dX6_readNumbers_24 : decode cX6_readNumbers 24 = .ok (.getfield 25, 3) := by decide +kernel
theorem dX6_readNumbers_27 : decode cX6_readNumbers 27 = .ok (.iload_n 2, 1) := by decide +kernel
theorem dX6_readNumbers_28 : decode cX6_readNumbers 28 = .ok (.aload_n 0, 1) := by decide +kernel
theorem dX6_readNumbers_29 : decode cX6_readNumbers 29 = .ok (.aload_n 0, 1) := by decide +kernel
theorem dX6_readNumbers_30 : decode cX6_readNumbers 30 = .ok (.getfield 71, 3) := by decide +kernel
theorem dX6_readNumbers_33 : decode cX6_readNumbers 33 = .ok (.invokevirtual 74, 3) := by decide +kernel
theorem dX6_readNumbers_36 : decode cX6_readNumbers 36 = .ok (.bipush 48, 2) := by decide +kernel
theorem dX6_readNumbers_38 : decode cX6_readNumbers 38 = .ok (.isub, 1) := by decide +kernel
theorem dX6_readNumbers_39 : decode cX6_readNumbers 39 = .ok (.iastore, 1) := by decide +kernel
theorem dX6_readNumbers_40 : decode cX6_readNumbers 40 = .ok (.aload_n 0, 1) := by decide +kernel
theorem dX6_readNumbers_41 : decode cX6_readNumbers 41 = .ok (.dup, 1) := by decide +kernel
theorem dX6_readNumbers_42 : decode cX6_readNumbers 42 = .ok (.getfield 71, 3) := by decide +kernel
theorem dX6_readNumbers_45 : decode cX6_readNumbers 45 = .ok (.iconst 1, 1) := by decide +kernel
theorem dX6_readNumbers_46 : decode cX6_readNumbers 46 = .ok (.iadd, 1) := by decide +kernel
theorem dX6_readNumbers_47 : decode cX6_readNumbers 47 = .ok (.putfield 71, 3) := by decide +kernel
theorem dX6_readNumbers_50 : decode cX6_readNumbers 50 = .ok (.aload_n 0, 1) := by decide +kernel
theorem dX6_readNumbers_51 : decode cX6_readNumbers 51 = .ok (.aload_n 0, 1) := by decide +kernel
theorem dX6_readNumbers_52 : decode cX6_readNumbers 52 = .ok (.getfield 71, 3) := by decide +kernel
theorem dX6_readNumbers_55 : decode cX6_readNumbers 55 = .ok (.invokevirtual 74, 3) := by decide +kernel
theorem dX6_readNumbers_58 : decode cX6_readNumbers 58 = .ok (.invokestatic 78, 3) := by decide +kernel
theorem dX6_readNumbers_61 : decode cX6_readNumbers 61 = .ok (.ifCond .eq 40, 3) := by decide +kernel
theorem dX6_readNumbers_64 : decode cX6_readNumbers 64 = .ok (.aload_n 0, 1) := by decide +kernel
theorem dX6_readNumbers_65 : decode cX6_readNumbers 65 = .ok (.getfield 25, 3) := by decide +kernel
theorem dX6_readNumbers_68 : decode cX6_readNumbers 68 = .ok (.iload_n 2, 1) := by decide +kernel
theorem dX6_readNumbers_69 : decode cX6_readNumbers 69 = .ok (.bipush 10, 2) := by decide +kernel
theorem dX6_readNumbers_71 : decode cX6_readNumbers 71 = .ok (.aload_n 0, 1) := by decide +kernel
theorem dX6_readNumbers_72 : decode cX6_readNumbers 72 = .ok (.getfield 25, 3) := by decide +kernel
theorem dX6_readNumbers_75 : decode cX6_readNumbers 75 = .ok (.iload_n 2, 1) := by decide +kernel
theorem dX6_readNumbers_76 : decode cX6_readNumbers 76 = .ok (.iaload, 1) := by decide +kernel
theorem dX6_readNumbers_77 : decode cX6_readNumbers 77 = .ok (.imul, 1) := by decide +kernel
theorem dX6_readNumbers_78 : decode cX6_readNumbers 78 = .ok (.aload_n 0, 1) := by decide +kernel
theorem dX6_readNumbers_79 : decode cX6_readNumbers 79 = .ok (.aload_n 0, 1) := by decide +kernel
theorem dX6_readNumbers_80 : decode cX6_readNumbers 80 = .ok (.getfield 71, 3) := by decide +kernel
theorem dX6_readNumbers_83 : decode cX6_readNumbers 83 = .ok (.invokevirtual 74, 3) := by decide +kernel
theorem dX6_readNumbers_86 : decode cX6_readNumbers 86 = .ok (.iadd, 1) := by decide +kernel
theorem dX6_readNumbers_87 : decode cX6_readNumbers 87 = .ok (.bipush 48, 2) := by decide +kernel
theorem dX6_readNumbers_89 : decode cX6_readNumbers 89 = .ok (.isub, 1) := by decide +kernel
theorem dX6_readNumbers_90 : decode cX6_readNumbers 90 = .ok (.iastore, 1) := by decide +kernel
theorem dX6_readNumbers_91 : decode cX6_readNumbers 91 = .ok (.aload_n 0, 1) := by decide +kernel
theorem dX6_readNumbers_92 : decode cX6_readNumbers 92 = .ok (.dup, 1) := by decide +kernel
theorem dX6_readNumbers_93 : decode cX6_readNumbers 93 = .ok (.getfield 71, 3) := by decide +kernel
theorem dX6_readNumbers_96 : decode cX6_readNumbers 96 = .ok (.iconst 1, 1) := by decide +kernel
theorem dX6_readNumbers_97 : decode cX6_readNumbers 97 = .ok (.iadd, 1) := by decide +kernel
theorem dX6_readNumbers_98 : decode cX6_readNumbers 98 = .ok (.putfield 71, 3) := by decide +kernel
theorem dX6_readNumbers_101 : decode cX6_readNumbers 101 = .ok (.aload_n 0, 1) := by decide +kernel
theorem dX6_readNumbers_102 : decode cX6_readNumbers 102 = .ok (.aload_n 0, 1) := by decide +kernel
theorem dX6_readNumbers_103 : decode cX6_readNumbers 103 = .ok (.getfield 71, 3) := by decide +kernel
theorem dX6_readNumbers_106 : decode cX6_readNumbers 106 = .ok (.invokevirtual 74, 3) := by decide +kernel
theorem dX6_readNumbers_109 : decode cX6_readNumbers 109 = .ok (.iload_n 2, 1) := by decide +kernel
theorem dX6_readNumbers_110 : decode cX6_readNumbers 110 = .ok (.iload_n 1, 1) := by decide +kernel
theorem dX6_readNumbers_111 : decode cX6_readNumbers 111 = .ok (.iconst 1, 1) := by decide +kernel
theorem dX6_readNumbers_112 : decode cX6_readNumbers 112 = .ok (.isub, 1) := by decide +kernel
theorem dX6_readNumbers_113 : decode cX6_readNumbers 113 = .ok (.if_icmp .ge 8, 3) := by decide +kernel
theorem dX6_readNumbers_116 : decode cX6_readNumbers 116 = .ok (.bipush 44, 2) := by decide +kernel
theorem dX6_readNumbers_118 : decode cX6_readNumbers 118 = .ok (.goto 5, 3) := by decide +kernel
theorem dX6_readNumbers_121 : decode cX6_readNumbers 121 = .ok (.bipush 59, 2) := by decide +kernel
theorem dX6_readNumbers_123 : decode cX6_readNumbers 123 = .ok (.if_icmp .eq 5, 3) := by decide +kernel
theorem dX6_readNumbers_126 : decode cX6_readNumbers 126 = .ok (.iconst 0, 1) := by decide +kernel
theorem dX6_readNumbers_127 : decode cX6_readNumbers 127 = .ok (.ireturn, 1) := by decide +kernel
theorem dX6_readNumbers_128 : decode cX6_readNumbers 128 = .ok (.aload_n 0, 1) := by decide +kernel
theorem dX6_readNumbers_129 : decode cX6_readNumbers 129 = .ok (.dup, 1) := by decide +kernel
theorem dX6_readNumbers_130 : decode cX6_readNumbers 130 = .ok (.getfield 71, 3) := by decide +kernel
theorem dX6_readNumbers_133 : decode cX6_readNumbers 133 = .ok (.iconst 1, 1) := by decide +kernel
theorem dX6_readNumbers_134 : decode cX6_readNumbers 134 = .ok (.iadd, 1) := by decide +kernel
theorem dX6_readNumbers_135 : decode cX6_readNumbers 135 = .ok (.putfield 71, 3) := by decide +kernel
theorem dX6_readNumbers_138 : decode cX6_readNumbers 138 = .ok (.iinc 2 1, 3) := by decide +kernel
theorem dX6_readNumbers_141 : decode cX6_readNumbers 141 = .ok (.goto (-139), 3) := by decide +kernel
theorem dX6_readNumbers_144 : decode cX6_readNumbers 144 = .ok (.iconst 1, 1) := by decide +kernel
theorem dX6_readNumbers_145 : decode cX6_readNumbers 145 = .ok (.ireturn, 1) := by decide +kernel
set_option maxRecDepth 20000 in
theorem ggX6_isTold_X6_in : GoodIn wsX6_isTold wsX6_in := goodIn_r _ [5] (by decide +kernel) (by decide +kernel)
set_option maxRecDepth 20000 in
theorem gX6_isTold_X6_in : GoodIn wsX6_isTold (va_wsS RX6 64 yX6_in wsX6_in) := goodIn_app (goodIn_of _ (by decide +kernel)) ggX6_isTold_X6_in
theorem dX6_isTold_0 : decode cX6_isTold 0 = .ok (.aload_n 0, 1) := by decide +kernel
theorem dX6_isTold_1 : decode cX6_isTold 1 = .ok (.getfield 25, 3) := by decide +kernel
theorem dX6_isTold_4 : decode cX6_isTold 4 = .ok (.iload_n 1, 1) := by decide +kernel
theorem dX6_isTold_5 : decode cX6_isTold 5 = .ok (.iaload, 1) := by decide +kernel
theorem dX6_isTold_6 : decode cX6_isTold 6 = .ok (.iload_n 2, 1) := by decide +kernel
theorem dX6_isTold_7 : decode cX6_isTold 7 = .ok (.iload_n 3, 1) := by decide +kernel
theorem dX6_isTold_8 : decode cX6_isTold 8 = .ok (.invokestatic 64, 3) := by decide +kernel
theorem dX6_isTold_11 : decode cX6_isTold 11 = .ok (.ireturn, 1) := by decide +kernel
theorem dX6_clearTold_0 : decode cX6_clearTold 0 = .ok (.iconst 0, 1) := by decide +kernel
theorem dX6_clearTold_1 : decode cX6_clearTold 1 = .ok (.istore_n 1, 1) := by decide +kernel
theorem dX6_clearTold_2 : decode cX6_clearTold 2 = .ok (.iload_n 1, 1) := by decide +kernel
theorem dX6_clearTold_3 : decode cX6_clearTold 3 = .ok (.bipush 49, 2) := by decide +kernel
theorem dX6_clearTold_5 : decode cX6_clearTold 5 = .ok (.if_icmp .ge 16, 3) := by decide +kernel
theorem dX6_clearTold_8 : decode cX6_clearTold 8 = .ok (.aload_n 0, 1) := by decide +kernel
theorem dX6_clearTold_9 : decode cX6_clearTold 9 = .ok (.getfield 28, 3) := by decide +kernel
theorem dX6_clearTold_12 : decode cX6_clearTold 12 = .ok (.iload_n 1, 1) := by decide +kernel
theorem dX6_clearTold_13 : decode cX6_clearTold 13 = .ok (.iconst 0, 1) := by decide +kernel
theorem dX6_clearTold_14 : decode cX6_clearTold 14 = .ok (.iastore, 1) := by decide +kernel
theorem dX6_clearTold_15 : decode cX6_clearTold 15 = .ok (.iinc 1 1, 3) := by decide +kernel
theorem dX6_clearTold_18 : decode cX6_clearTold 18 = .ok (.goto (-16), 3) := by decide +kernel
theorem dX6_clearTold_21 : decode cX6_clearTold 21 = .ok (.aload_n 0, 1) := by decide +kernel
theorem dX6_clearTold_22 : decode cX6_clearTold 22 = .ok (.iconst 5, 1) := by decide +kernel
theorem dX6_clearTold_23 : decode cX6_clearTold 23 = .ok (.putfield 53, 3) := by decide +kernel
theorem dX6_clearTold_26 : decode cX6_clearTold 26 = .ok (.return_, 1) := by decide +kernel
set_option maxRecDepth 20000 in
theorem ggX6_readFactOf_X6_readNumbers : GoodIn wsX6_readFactOf wsX6_readNumbers := goodIn_r _ [7, 8, 2, 9, 10, 11, 6, 12, 13, 14, 15, 16, 17, 18, 19, 20, 25, 26, 27, 28, 29, 30, 31, 32, 33, 34, 35, 36, 37, 38, 39, 40, 41, 42, 43, 44, 45] (by decide +kernel) (by decide +kernel)
set_option maxRecDepth 20000 in
theorem gX6_readFactOf_X6_readNumbers : GoodIn wsX6_readFactOf (wsV RX6 82 RX6 yX6_readNumbers wsX6_readNumbers) := goodIn_app (goodIn_of _ (by decide +kernel)) ggX6_readFactOf_X6_readNumbers
set_option maxRecDepth 20000 in
theorem ggX6_readFactOf_X6_isTold : GoodIn wsX6_readFactOf wsX6_isTold := goodIn_r _ [24, 2, 18, 19, 6, 20, 25, 26, 27, 28, 29, 30, 31, 32, 33, 34, 35, 36, 37, 38, 39, 40, 41, 42, 43, 44, 45] (by decide +kernel) (by decide +kernel)
set_option maxRecDepth 20000 in
theorem gX6_readFactOf_X6_isTold : GoodIn wsX6_readFactOf (wsV RX6 85 RX6 yX6_isTold wsX6_isTold) := goodIn_app (goodIn_of _ (by decide +kernel)) ggX6_readFactOf_X6_isTold
theorem dX6_readFactOf_0 : decode cX6_readFactOf 0 = .ok (.aload_n 0, 1) := by decide +kernel
theorem dX6_readFactOf_1 : decode cX6_readFactOf 1 = .ok (.iconst 1, 1) := by decide +kernel
theorem dX6_readFactOf_2 : decode cX6_readFactOf 2 = .ok (.invokevirtual 82, 3) := by decide +kernel
theorem dX6_readFactOf_5 : decode cX6_readFactOf 5 = .ok (.ifCond .eq 13, 3) := by decide +kernel
theorem dX6_readFactOf_8 : decode cX6_readFactOf 8 = .ok (.aload_n 0, 1) := by decide +kernel
theorem dX6_readFactOf_9 : decode cX6_readFactOf 9 = .ok (.iconst 0, 1) := by decide +kernel
theorem dX6_readFactOf_10 : decode cX6_readFactOf 10 = .ok (.iconst 0, 1) := by decide +kernel
theorem dX6_readFactOf_11 : decode cX6_readFactOf 11 = .ok (.iconst 5, 1) := by decide +kernel
theorem dX6_readFactOf_12 : decode cX6_readFactOf 12 = .ok (.invokevirtual 85, 3) := by decide +kernel
theorem dX6_readFactOf_15 : decode cX6_readFactOf 15 = .ok (.ifCond .ne 5, 3) := by decide +kernel
theorem dX6_readFactOf_18 : decode cX6_readFactOf 18 = .ok (.iconst 0, 1) := by decide +kernel
theorem dX6_readFactOf_19 : decode cX6_readFactOf 19 = .ok (.ireturn, 1) := by decide +kernel
theorem dX6_readFactOf_20 : decode cX6_readFactOf 20 = .ok (.aload_n 0, 1) := by decide +kernel
theorem dX6_readFactOf_21 : decode cX6_readFactOf 21 = .ok (.getfield 28, 3) := by decide +kernel
theorem dX6_readFactOf_24 : decode cX6_readFactOf 24 = .ok (.iconst 0, 1) := by decide +kernel
theorem dX6_readFactOf_25 : decode cX6_readFactOf 25 = .ok (.dup2, 1) := by decide +kernel
theorem dX6_readFactOf_26 : decode cX6_readFactOf 26 = .ok (.iaload, 1) := by decide +kernel
theorem dX6_readFactOf_27 : decode cX6_readFactOf 27 = .ok (.iconst 1, 1) := by decide +kernel
theorem dX6_readFactOf_28 : decode cX6_readFactOf 28 = .ok (.aload_n 0, 1) := by decide +kernel
theorem dX6_readFactOf_29 : decode cX6_readFactOf 29 = .ok (.getfield 25, 3) := by decide +kernel
theorem dX6_readFactOf_32 : decode cX6_readFactOf 32 = .ok (.iconst 0, 1) := by decide +kernel
theorem dX6_readFactOf_33 : decode cX6_readFactOf 33 = .ok (.iaload, 1) := by decide +kernel
theorem dX6_readFactOf_34 : decode cX6_readFactOf 34 = .ok (.ishl, 1) := by decide +kernel
theorem dX6_readFactOf_35 : decode cX6_readFactOf 35 = .ok (.ixor, 1) := by decide +kernel
theorem dX6_readFactOf_36 : decode cX6_readFactOf 36 = .ok (.iastore, 1) := by decide +kernel
theorem dX6_readFactOf_37 : decode cX6_readFactOf 37 = .ok (.iconst 1, 1) := by decide +kernel
theorem dX6_readFactOf_38 : decode cX6_readFactOf 38 = .ok (.ireturn, 1) := by decide +kernel
set_option maxRecDepth 20000 in
theorem ggX6_readSayingOf_X6_readNumbers : GoodIn wsX6_readSayingOf wsX6_readNumbers := goodIn_r _ [7, 8, 2, 9, 10, 11, 6, 12, 13, 14, 15, 16, 17, 18, 19, 20, 32, 33, 34, 35, 36, 37, 38, 39, 40, 41, 42, 43, 44, 45, 46, 47, 48, 49, 50, 51, 52] (by decide +kernel) (by decide +kernel)
set_option maxRecDepth 20000 in
theorem gX6_readSayingOf_X6_readNumbers : GoodIn wsX6_readSayingOf (wsV RX6 82 RX6 yX6_readNumbers wsX6_readNumbers) := goodIn_app (goodIn_of _ (by decide +kernel)) ggX6_readSayingOf_X6_readNumbers
set_option maxRecDepth 20000 in
theorem ggX6_readSayingOf_X6_isTold : GoodIn wsX6_readSayingOf wsX6_isTold := goodIn_r _ [24, 2, 18, 19, 6, 20, 32, 33, 34, 35, 36, 37, 38, 39, 40, 41, 42, 43, 44, 45, 46, 47, 48, 49, 50, 51, 52] (by decide +kernel) (by decide +kernel)
set_option maxRecDepth 20000 in
theorem gX6_readSayingOf_X6_isTold : GoodIn wsX6_readSayingOf (wsV RX6 85 RX6 yX6_isTold wsX6_isTold) := goodIn_app (goodIn_of _ (by decide +kernel)) ggX6_readSayingOf_X6_isTold
set_option maxRecDepth 20000 in
theorem ggX6_readSayingOf_X6_tellsSaying : GoodIn wsX6_readSayingOf wsX6_tellsSaying := goodIn_r _ [28, 1, 29, 30, 6, 31, 32, 33, 34, 35, 36, 37, 38, 39, 40, 41, 42, 43, 44, 45, 46, 47, 48, 49, 50, 51, 52] (by decide +kernel) (by decide +kernel)
set_option maxRecDepth 20000 in
theorem gX6_readSayingOf_X6_tellsSaying : GoodIn wsX6_readSayingOf (wsV RX6 49 RX6 yX6_tellsSaying wsX6_tellsSaying) := goodIn_app (goodIn_of _ (by decide +kernel)) ggX6_readSayingOf_X6_tellsSaying
theorem dX6_readSayingOf_0 : decode cX6_readSayingOf 0 = .ok (.aload_n 0, 1) := by decide +kernel
