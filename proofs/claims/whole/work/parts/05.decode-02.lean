theorem dX2_dropOldest_17 : decode cX2_dropOldest 17 = .ok (.iconst 0, 1) := by decide +kernel
theorem dX2_dropOldest_18 : decode cX2_dropOldest 18 = .ok (.aaload, 1) := by decide +kernel
theorem dX2_dropOldest_19 : decode cX2_dropOldest 19 = .ok (.astore_n 2, 1) := by decide +kernel
theorem dX2_dropOldest_20 : decode cX2_dropOldest 20 = .ok (.iconst 0, 1) := by decide +kernel
theorem dX2_dropOldest_21 : decode cX2_dropOldest 21 = .ok (.istore_n 3, 1) := by decide +kernel
theorem dX2_dropOldest_22 : decode cX2_dropOldest 22 = .ok (.iload_n 3, 1) := by decide +kernel
theorem dX2_dropOldest_23 : decode cX2_dropOldest 23 = .ok (.iload_n 1, 1) := by decide +kernel
theorem dX2_dropOldest_24 : decode cX2_dropOldest 24 = .ok (.if_icmp .ge 23, 3) := by decide +kernel
theorem dX2_dropOldest_27 : decode cX2_dropOldest 27 = .ok (.aload_n 0, 1) := by decide +kernel
theorem dX2_dropOldest_28 : decode cX2_dropOldest 28 = .ok (.getfield 9, 3) := by decide +kernel
theorem dX2_dropOldest_31 : decode cX2_dropOldest 31 = .ok (.iload_n 3, 1) := by decide +kernel
theorem dX2_dropOldest_32 : decode cX2_dropOldest 32 = .ok (.aload_n 0, 1) := by decide +kernel
theorem dX2_dropOldest_33 : decode cX2_dropOldest 33 = .ok (.getfield 9, 3) := by decide +kernel
theorem dX2_dropOldest_36 : decode cX2_dropOldest 36 = .ok (.iload_n 3, 1) := by decide +kernel
theorem dX2_dropOldest_37 : decode cX2_dropOldest 37 = .ok (.iconst 1, 1) := by decide +kernel
theorem dX2_dropOldest_38 : decode cX2_dropOldest 38 = .ok (.iadd, 1) := by decide +kernel
theorem dX2_dropOldest_39 : decode cX2_dropOldest 39 = .ok (.aaload, 1) := by decide +kernel
theorem dX2_dropOldest_40 : decode cX2_dropOldest 40 = .ok (.aastore, 1) := by decide +kernel
theorem dX2_dropOldest_41 : decode cX2_dropOldest 41 = .ok (.iinc 3 1, 3) := by decide +kernel
theorem dX2_dropOldest_44 : decode cX2_dropOldest 44 = .ok (.goto (-22), 3) := by decide +kernel
theorem dX2_dropOldest_47 : decode cX2_dropOldest 47 = .ok (.aload_n 0, 1) := by decide +kernel
theorem dX2_dropOldest_48 : decode cX2_dropOldest 48 = .ok (.getfield 9, 3) := by decide +kernel
theorem dX2_dropOldest_51 : decode cX2_dropOldest 51 = .ok (.iload_n 1, 1) := by decide +kernel
theorem dX2_dropOldest_52 : decode cX2_dropOldest 52 = .ok (.aload_n 2, 1) := by decide +kernel
theorem dX2_dropOldest_53 : decode cX2_dropOldest 53 = .ok (.aastore, 1) := by decide +kernel
theorem dX2_dropOldest_54 : decode cX2_dropOldest 54 = .ok (.aload_n 0, 1) := by decide +kernel
theorem dX2_dropOldest_55 : decode cX2_dropOldest 55 = .ok (.iload_n 1, 1) := by decide +kernel
theorem dX2_dropOldest_56 : decode cX2_dropOldest 56 = .ok (.putfield 16, 3) := by decide +kernel
theorem dX2_dropOldest_59 : decode cX2_dropOldest 59 = .ok (.return_, 1) := by decide +kernel
set_option maxRecDepth 20000 in
theorem ggX2_takeLast_X0_copy : GoodIn wsX2_takeLast wsX0_copy := goodIn_r _ [7, 8, 9, 10, 11, 12, 13, 14, 15, 16, 17, 18, 21, 22, 23, 24, 25, 26, 27, 28, 29, 30, 31] (by decide +kernel) (by decide +kernel)
set_option maxRecDepth 20000 in
theorem gX2_takeLast_X0_copy : GoodIn wsX2_takeLast (wsV RX2 23 RX0 yX0_copy wsX0_copy) := goodIn_app (goodIn_of _ (by decide +kernel)) ggX2_takeLast_X0_copy
theorem dX2_takeLast_0 : decode cX2_takeLast 0 = .ok (.aload_n 0, 1) := by decide +kernel
theorem dX2_takeLast_1 : decode cX2_takeLast 1 = .ok (.getfield 16, 3) := by decide +kernel
theorem dX2_takeLast_4 : decode cX2_takeLast 4 = .ok (.ifCond .le 15, 3) := by decide +kernel
theorem dX2_takeLast_7 : decode cX2_takeLast 7 = .ok (.aload_n 0, 1) := by decide +kernel
theorem dX2_takeLast_8 : decode cX2_takeLast 8 = .ok (.getfield 16, 3) := by decide +kernel
theorem dX2_takeLast_11 : decode cX2_takeLast 11 = .ok (.aload_n 0, 1) := by decide +kernel
theorem dX2_takeLast_12 : decode cX2_takeLast 12 = .ok (.getfield 9, 3) := by decide +kernel
theorem dX2_takeLast_15 : decode cX2_takeLast 15 = .ok (.arraylength, 1) := by decide +kernel
theorem dX2_takeLast_16 : decode cX2_takeLast 16 = .ok (.if_icmp .le 5, 3) := by decide +kernel
theorem dX2_takeLast_19 : decode cX2_takeLast 19 = .ok (.iconst 0, 1) := by decide +kernel
theorem dX2_takeLast_20 : decode cX2_takeLast 20 = .ok (.ireturn, 1) := by decide +kernel
theorem dX2_takeLast_21 : decode cX2_takeLast 21 = .ok (.aload_n 0, 1) := by decide +kernel
theorem dX2_takeLast_22 : decode cX2_takeLast 22 = .ok (.dup, 1) := by decide +kernel
theorem dX2_takeLast_23 : decode cX2_takeLast 23 = .ok (.getfield 16, 3) := by decide +kernel
theorem dX2_takeLast_26 : decode cX2_takeLast 26 = .ok (.iconst 1, 1) := by decide +kernel
theorem dX2_takeLast_27 : decode cX2_takeLast 27 = .ok (.isub, 1) := by decide +kernel
theorem dX2_takeLast_28 : decode cX2_takeLast 28 = .ok (.putfield 16, 3) := by decide +kernel
theorem dX2_takeLast_31 : decode cX2_takeLast 31 = .ok (.aload_n 1, 1) := by decide +kernel
theorem dX2_takeLast_32 : decode cX2_takeLast 32 = .ok (.aload_n 0, 1) := by decide +kernel
theorem dX2_takeLast_33 : decode cX2_takeLast 33 = .ok (.getfield 9, 3) := by decide +kernel
theorem dX2_takeLast_36 : decode cX2_takeLast 36 = .ok (.aload_n 0, 1) := by decide +kernel
theorem dX2_takeLast_37 : decode cX2_takeLast 37 = .ok (.getfield 16, 3) := by decide +kernel
theorem dX2_takeLast_40 : decode cX2_takeLast 40 = .ok (.aaload, 1) := by decide +kernel
theorem dX2_takeLast_41 : decode cX2_takeLast 41 = .ok (.invokevirtual 23, 3) := by decide +kernel
theorem dX2_takeLast_44 : decode cX2_takeLast 44 = .ok (.iconst 1, 1) := by decide +kernel
theorem dX2_takeLast_45 : decode cX2_takeLast 45 = .ok (.ireturn, 1) := by decide +kernel
theorem dX3_init_0 : decode cX3_init 0 = .ok (.aload_n 0, 1) := by decide +kernel
theorem dX3_init_1 : decode cX3_init 1 = .ok (.invokespecial 3, 3) := by decide +kernel
theorem dX3_init_4 : decode cX3_init 4 = .ok (.aload_n 0, 1) := by decide +kernel
theorem dX3_init_5 : decode cX3_init 5 = .ok (.iconst 4, 1) := by decide +kernel
theorem dX3_init_6 : decode cX3_init 6 = .ok (.newarray .int, 2) := by decide +kernel
theorem dX3_init_8 : decode cX3_init 8 = .ok (.putfield 11, 3) := by decide +kernel
theorem dX3_init_11 : decode cX3_init 11 = .ok (.return_, 1) := by decide +kernel
set_option maxRecDepth 20000 in
theorem ggX3_read_X0_empty : GoodIn wsX3_read wsX0_empty := goodIn_r _ [5, 6, 7, 8, 9, 10, 83, 84, 85, 86, 87, 88, 89, 90, 91, 92, 93] (by decide +kernel) (by decide +kernel)
set_option maxRecDepth 20000 in
theorem gX3_read_X0_empty : GoodIn wsX3_read (wsV RX3 15 RX0 yX0_empty wsX0_empty) := goodIn_app (goodIn_of _ (by decide +kernel)) ggX3_read_X0_empty
set_option maxRecDepth 20000 in
theorem ggX3_read_X3_letterAt : GoodIn wsX3_read wsX3_letterAt := goodIn_r _ [14] (by decide +kernel) (by decide +kernel)
set_option maxRecDepth 20000 in
theorem gX3_read_X3_letterAt : GoodIn wsX3_read (va_wsS RX3 20 yX3_letterAt wsX3_letterAt) := goodIn_app (goodIn_of _ (by decide +kernel)) ggX3_read_X3_letterAt
set_option maxRecDepth 20000 in
theorem ggX3_read_X3_numbersOf : GoodIn wsX3_read wsX3_numbersOf := goodIn_r _ [17] (by decide +kernel) (by decide +kernel)
set_option maxRecDepth 20000 in
theorem gX3_read_X3_numbersOf : GoodIn wsX3_read (va_wsS RX3 24 yX3_numbersOf wsX3_numbersOf) := goodIn_app (goodIn_of _ (by decide +kernel)) ggX3_read_X3_numbersOf
set_option maxRecDepth 20000 in
theorem ggX3_read_X3_readNumbers : GoodIn wsX3_read wsX3_readNumbers := goodIn_r _ [21, 22, 23, 24, 13, 25, 11, 12, 14, 26, 27, 28, 29, 30, 31, 94] (by decide +kernel) (by decide +kernel)
set_option maxRecDepth 20000 in
theorem gX3_read_X3_readNumbers : GoodIn wsX3_read (wsV RX3 28 RX3 yX3_readNumbers wsX3_readNumbers) := goodIn_app (goodIn_of _ (by decide +kernel)) ggX3_read_X3_readNumbers
set_option maxRecDepth 20000 in
theorem ggX3_read_X3_putItem : GoodIn wsX3_read wsX3_putItem := goodIn_r _ [35, 22, 36, 37, 38, 39, 4, 40, 6, 7, 41, 42, 43, 44, 45, 46, 47, 48, 49, 50, 51, 52, 53, 54, 55, 56, 57, 58, 59, 60, 8, 61, 62, 63, 64, 65, 66, 67, 68, 69, 70, 71, 72, 73, 74, 75, 76, 77, 78, 79, 80, 81, 82, 94, 83, 84, 85, 86, 87, 88, 89, 90, 91, 92, 93] (by decide +kernel) (by decide +kernel)
set_option maxRecDepth 20000 in
theorem gX3_read_X3_putItem : GoodIn wsX3_read (wsV RX3 32 RX3 yX3_putItem wsX3_putItem) := goodIn_app (goodIn_of _ (by decide +kernel)) ggX3_read_X3_putItem
theorem dX3_read_0 : decode cX3_read 0 = .ok (.aload_n 3, 1) := by decide +kernel
theorem dX3_read_1 : decode cX3_read 1 = .ok (.invokevirtual 15, 3) := by decide +kernel
theorem dX3_read_4 : decode cX3_read 4 = .ok (.iconst 0, 1) := by decide +kernel
theorem dX3_read_5 : decode cX3_read 5 = .ok (.istore 4, 2) := by decide +kernel
theorem dX3_read_7 : decode cX3_read 7 = .ok (.iconst 0, 1) := by decide +kernel
theorem dX3_read_8 : decode cX3_read 8 = .ok (.istore 5, 2) := by decide +kernel
theorem dX3_read_10 : decode cX3_read 10 = .ok (.iload 5, 2) := by decide +kernel
theorem dX3_read_12 : decode cX3_read 12 = .ok (.sipush 200, 3) := by decide +kernel
theorem dX3_read_15 : decode cX3_read 15 = .ok (.if_icmp .ge 65, 3) := by decide +kernel
theorem dX3_read_18 : decode cX3_read 18 = .ok (.iload 4, 2) := by decide +kernel
theorem dX3_read_20 : decode cX3_read 20 = .ok (.iload_n 2, 1) := by decide +kernel
theorem dX3_read_21 : decode cX3_read 21 = .ok (.if_icmp .ge 59, 3) := by decide +kernel
theorem dX3_read_24 : decode cX3_read 24 = .ok (.aload_n 1, 1) := by decide +kernel
theorem dX3_read_25 : decode cX3_read 25 = .ok (.iload_n 2, 1) := by decide +kernel
theorem dX3_read_26 : decode cX3_read 26 = .ok (.iload 4, 2) := by decide +kernel
theorem dX3_read_28 : decode cX3_read 28 = .ok (.invokestatic 20, 3) := by decide +kernel
theorem dX3_read_31 : decode cX3_read 31 = .ok (.istore 6, 2) := by decide +kernel
theorem dX3_read_33 : decode cX3_read 33 = .ok (.aload_n 0, 1) := by decide +kernel
theorem dX3_read_34 : decode cX3_read 34 = .ok (.aload_n 1, 1) := by decide +kernel
theorem dX3_read_35 : decode cX3_read 35 = .ok (.iload_n 2, 1) := by decide +kernel
theorem dX3_read_36 : decode cX3_read 36 = .ok (.iload 4, 2) := by decide +kernel
theorem dX3_read_38 : decode cX3_read 38 = .ok (.iconst 1, 1) := by decide +kernel
theorem dX3_read_39 : decode cX3_read 39 = .ok (.iadd, 1) := by decide +kernel
theorem dX3_read_40 : decode cX3_read 40 = .ok (.iload 6, 2) := by decide +kernel
theorem dX3_read_42 : decode cX3_read 42 = .ok (.invokestatic 24, 3) := by decide +kernel
theorem dX3_read_45 : decode cX3_read 45 = .ok (.invokevirtual 28, 3) := by decide +kernel
theorem dX3_read_48 : decode cX3_read 48 = .ok (.istore 7, 2) := by decide +kernel
theorem dX3_read_50 : decode cX3_read 50 = .ok (.iload 7, 2) := by decide +kernel
theorem dX3_read_52 : decode cX3_read 52 = .ok (.bipush (-4), 2) := by decide +kernel
theorem dX3_read_54 : decode cX3_read 54 = .ok (.if_icmp .eq 13, 3) := by decide +kernel
theorem dX3_read_57 : decode cX3_read 57 = .ok (.aload_n 0, 1) := by decide +kernel
theorem dX3_read_58 : decode cX3_read 58 = .ok (.iload 6, 2) := by decide +kernel
theorem dX3_read_60 : decode cX3_read 60 = .ok (.aload_n 3, 1) := by decide +kernel
theorem dX3_read_61 : decode cX3_read 61 = .ok (.invokevirtual 32, 3) := by decide +kernel
theorem dX3_read_64 : decode cX3_read 64 = .ok (.ifCond .ne 6, 3) := by decide +kernel
theorem dX3_read_67 : decode cX3_read 67 = .ok (.iload 4, 2) := by decide +kernel
theorem dX3_read_69 : decode cX3_read 69 = .ok (.ireturn, 1) := by decide +kernel
theorem dX3_read_70 : decode cX3_read 70 = .ok (.iload 7, 2) := by decide +kernel
theorem dX3_read_72 : decode cX3_read 72 = .ok (.istore 4, 2) := by decide +kernel
theorem dX3_read_74 : decode cX3_read 74 = .ok (.iinc 5 1, 3) := by decide +kernel
theorem dX3_read_77 : decode cX3_read 77 = .ok (.goto (-67), 3) := by decide +kernel
theorem dX3_read_80 : decode cX3_read 80 = .ok (.bipush (-4), 2) := by decide +kernel
theorem dX3_read_82 : decode cX3_read 82 = .ok (.ireturn, 1) := by decide +kernel
set_option maxRecDepth 20000 in
theorem ggX3_readNumbers_X3_figuresAt : GoodIn wsX3_readNumbers wsX3_figuresAt := goodIn_r _ [5, 6, 7, 4, 8, 9, 10, 11] (by decide +kernel) (by decide +kernel)
set_option maxRecDepth 20000 in
theorem gX3_readNumbers_X3_figuresAt : GoodIn wsX3_readNumbers (va_wsS RX3 36 yX3_figuresAt wsX3_figuresAt) := goodIn_app (goodIn_of _ (by decide +kernel)) ggX3_readNumbers_X3_figuresAt
set_option maxRecDepth 20000 in
theorem ggX3_readNumbers_X3_numberOf : GoodIn wsX3_readNumbers wsX3_numberOf := goodIn_r _ [14, 6, 7, 4, 8] (by decide +kernel) (by decide +kernel)
set_option maxRecDepth 20000 in
theorem gX3_readNumbers_X3_numberOf : GoodIn wsX3_readNumbers (va_wsS RX3 39 yX3_numberOf wsX3_numberOf) := goodIn_app (goodIn_of _ (by decide +kernel)) ggX3_readNumbers_X3_numberOf
set_option maxRecDepth 20000 in
theorem ggX3_readNumbers_X3_letterAt : GoodIn wsX3_readNumbers wsX3_letterAt := goodIn_r _ [8] (by decide +kernel) (by decide +kernel)
set_option maxRecDepth 20000 in
theorem gX3_readNumbers_X3_letterAt : GoodIn wsX3_readNumbers (va_wsS RX3 20 yX3_letterAt wsX3_letterAt) := goodIn_app (goodIn_of _ (by decide +kernel)) ggX3_readNumbers_X3_letterAt
theorem dX3_readNumbers_0 : decode cX3_readNumbers 0 = .ok (.iload_n 3, 1) := by decide +kernel
theorem dX3_readNumbers_1 : decode cX3_readNumbers 1 = .ok (.istore 5, 2) := by decide +kernel
theorem dX3_readNumbers_3 : decode cX3_readNumbers 3 = .ok (.iconst 0, 1) := by decide +kernel
theorem dX3_readNumbers_4 : decode cX3_readNumbers 4 = .ok (.istore 6, 2) := by decide +kernel
theorem dX3_readNumbers_6 : decode cX3_readNumbers 6 = .ok (.iload 6, 2) := by decide +kernel
theorem dX3_readNumbers_8 : decode cX3_readNumbers 8 = .ok (.iload 4, 2) := by decide +kernel
theorem dX3_readNumbers_10 : decode cX3_readNumbers 10 = .ok (.if_icmp .ge 87, 3) := by decide +kernel
theorem dX3_readNumbers_13 : decode cX3_readNumbers 13 = .ok (.iload 6, 2) := by decide +kernel
theorem dX3_readNumbers_15 : decode cX3_readNumbers 15 = .ok (.iconst 4, 1) := by decide +kernel
theorem dX3_readNumbers_16 : decode cX3_readNumbers 16 = .ok (.if_icmp .ge 81, 3) := by decide +kernel
theorem dX3_readNumbers_19 : decode cX3_readNumbers 19 = .ok (.aload_n 1, 1) := by decide +kernel
theorem dX3_readNumbers_20 : decode cX3_readNumbers 20 = .ok (.iload_n 2, 1) := by decide +kernel
theorem dX3_readNumbers_21 : decode cX3_readNumbers 21 = .ok (.iload 5, 2) := by decide +kernel
theorem dX3_readNumbers_23 : decode cX3_readNumbers 23 = .ok (.invokestatic 36, 3) := by decide +kernel
theorem dX3_readNumbers_26 : decode cX3_readNumbers 26 = .ok (.istore 7, 2) := by decide +kernel
theorem dX3_readNumbers_28 : decode cX3_readNumbers 28 = .ok (.iload 7, 2) := by decide +kernel
theorem dX3_readNumbers_30 : decode cX3_readNumbers 30 = .ok (.ifCond .ne 6, 3) := by decide +kernel
theorem dX3_readNumbers_33 : decode cX3_readNumbers 33 = .ok (.bipush (-4), 2) := by decide +kernel
theorem dX3_readNumbers_35 : decode cX3_readNumbers 35 = .ok (.ireturn, 1) := by decide +kernel
theorem dX3_readNumbers_36 : decode cX3_readNumbers 36 = .ok (.aload_n 0, 1) := by decide +kernel
theorem dX3_readNumbers_37 : decode cX3_readNumbers 37 = .ok (.getfield 11, 3) := by decide +kernel
theorem dX3_readNumbers_40 : decode cX3_readNumbers 40 = .ok (.iload 6, 2) := by decide +kernel
theorem dX3_readNumbers_42 : decode cX3_readNumbers 42 = .ok (.aload_n 1, 1) := by decide +kernel
theorem dX3_readNumbers_43 : decode cX3_readNumbers 43 = .ok (.iload_n 2, 1) := by decide +kernel
theorem dX3_readNumbers_44 : decode cX3_readNumbers 44 = .ok (.iload 5, 2) := by decide +kernel
theorem dX3_readNumbers_46 : decode cX3_readNumbers 46 = .ok (.iload 7, 2) := by decide +kernel
theorem dX3_readNumbers_48 : decode cX3_readNumbers 48 = .ok (.invokestatic 39, 3) := by decide +kernel
theorem dX3_readNumbers_51 : decode cX3_readNumbers 51 = .ok (.iastore, 1) := by decide +kernel
theorem dX3_readNumbers_52 : decode cX3_readNumbers 52 = .ok (.iload 5, 2) := by decide +kernel
theorem dX3_readNumbers_54 : decode cX3_readNumbers 54 = .ok (.iload 7, 2) := by decide +kernel
theorem dX3_readNumbers_56 : decode cX3_readNumbers 56 = .ok (.iadd, 1) := by decide +kernel
theorem dX3_readNumbers_57 : decode cX3_readNumbers 57 = .ok (.istore 5, 2) := by decide +kernel
theorem dX3_readNumbers_59 : decode cX3_readNumbers 59 = .ok (.aload_n 1, 1) := by decide +kernel
theorem dX3_readNumbers_60 : decode cX3_readNumbers 60 = .ok (.iload_n 2, 1) := by decide +kernel
theorem dX3_readNumbers_61 : decode cX3_readNumbers 61 = .ok (.iload 5, 2) := by decide +kernel
theorem dX3_readNumbers_63 : decode cX3_readNumbers 63 = .ok (.invokestatic 20, 3) := by decide +kernel
theorem dX3_readNumbers_66 : decode cX3_readNumbers 66 = .ok (.iload 6, 2) := by decide +kernel
theorem dX3_readNumbers_68 : decode cX3_readNumbers 68 = .ok (.iconst 1, 1) := by decide +kernel
theorem dX3_readNumbers_69 : decode cX3_readNumbers 69 = .ok (.iadd, 1) := by decide +kernel
theorem dX3_readNumbers_70 : decode cX3_readNumbers 70 = .ok (.iload 4, 2) := by decide +kernel
theorem dX3_readNumbers_72 : decode cX3_readNumbers 72 = .ok (.if_icmp .ge 8, 3) := by decide +kernel
theorem dX3_readNumbers_75 : decode cX3_readNumbers 75 = .ok (.bipush 44, 2) := by decide +kernel
theorem dX3_readNumbers_77 : decode cX3_readNumbers 77 = .ok (.goto 5, 3) := by decide +kernel
theorem dX3_readNumbers_80 : decode cX3_readNumbers 80 = .ok (.bipush 59, 2) := by decide +kernel
theorem dX3_readNumbers_82 : decode cX3_readNumbers 82 = .ok (.if_icmp .eq 6, 3) := by decide +kernel
theorem dX3_readNumbers_85 : decode cX3_readNumbers 85 = .ok (.bipush (-4), 2) := by decide +kernel
theorem dX3_readNumbers_87 : decode cX3_readNumbers 87 = .ok (.ireturn, 1) := by decide +kernel
theorem dX3_readNumbers_88 : decode cX3_readNumbers 88 = .ok (.iinc 5 1, 3) := by decide +kernel
theorem dX3_readNumbers_91 : decode cX3_readNumbers 91 = .ok (.iinc 6 1, 3) := by decide +kernel
theorem dX3_readNumbers_94 : decode cX3_readNumbers 94 = .ok (.goto (-88), 3) := by decide +kernel
theorem dX3_readNumbers_97 : decode cX3_readNumbers 97 = .ok (.iload 4, 2) := by decide +kernel
theorem dX3_readNumbers_99 : decode cX3_readNumbers 99 = .ok (.ifCond .ne 8, 3) := by decide +kernel
theorem dX3_readNumbers_102 : decode cX3_readNumbers 102 = .ok (.bipush (-4), 2) := by decide +kernel
theorem dX3_readNumbers_104 : decode cX3_readNumbers 104 = .ok (.goto 5, 3) := by decide +kernel
theorem dX3_readNumbers_107 : decode cX3_readNumbers 107 = .ok (.iload 5, 2) := by decide +kernel
theorem dX3_readNumbers_109 : decode cX3_readNumbers 109 = .ok (.ireturn, 1) := by decide +kernel
theorem dX3_numbersOf_0 : decode cX3_numbersOf 0 = .ok (.iload_n 0, 1) := by decide +kernel
theorem dX3_numbersOf_1 : decode cX3_numbersOf 1 = .ok (.bipush 115, 2) := by decide +kernel
theorem dX3_numbersOf_3 : decode cX3_numbersOf 3 = .ok (.if_icmp .ne 5, 3) := by decide +kernel
theorem dX3_numbersOf_6 : decode cX3_numbersOf 6 = .ok (.iconst 4, 1) := by decide +kernel
theorem dX3_numbersOf_7 : decode cX3_numbersOf 7 = .ok (.ireturn, 1) := by decide +kernel
theorem dX3_numbersOf_8 : decode cX3_numbersOf 8 = .ok (.iload_n 0, 1) := by decide +kernel
theorem dX3_numbersOf_9 : decode cX3_numbersOf 9 = .ok (.bipush 102, 2) := by decide +kernel
theorem dX3_numbersOf_11 : decode cX3_numbersOf 11 = .ok (.if_icmp .eq 9, 3) := by decide +kernel
theorem dX3_numbersOf_14 : decode cX3_numbersOf 14 = .ok (.iload_n 0, 1) := by decide +kernel
theorem dX3_numbersOf_15 : decode cX3_numbersOf 15 = .ok (.bipush 114, 2) := by decide +kernel
theorem dX3_numbersOf_17 : decode cX3_numbersOf 17 = .ok (.if_icmp .ne 7, 3) := by decide +kernel
theorem dX3_numbersOf_20 : decode cX3_numbersOf 20 = .ok (.iconst 1, 1) := by decide +kernel
theorem dX3_numbersOf_21 : decode cX3_numbersOf 21 = .ok (.goto 4, 3) := by decide +kernel
theorem dX3_numbersOf_24 : decode cX3_numbersOf 24 = .ok (.iconst 0, 1) := by decide +kernel
theorem dX3_numbersOf_25 : decode cX3_numbersOf 25 = .ok (.ireturn, 1) := by decide +kernel
theorem dX3_letterAt_0 : decode cX3_letterAt 0 = .ok (.iload_n 2, 1) := by decide +kernel
theorem dX3_letterAt_1 : decode cX3_letterAt 1 = .ok (.ifCond .lt 20, 3) := by decide +kernel
theorem dX3_letterAt_4 : decode cX3_letterAt 4 = .ok (.iload_n 2, 1) := by decide +kernel
theorem dX3_letterAt_5 : decode cX3_letterAt 5 = .ok (.iload_n 1, 1) := by decide +kernel
theorem dX3_letterAt_6 : decode cX3_letterAt 6 = .ok (.if_icmp .ge 15, 3) := by decide +kernel
theorem dX3_letterAt_9 : decode cX3_letterAt 9 = .ok (.iload_n 2, 1) := by decide +kernel
theorem dX3_letterAt_10 : decode cX3_letterAt 10 = .ok (.aload_n 0, 1) := by decide +kernel
theorem dX3_letterAt_11 : decode cX3_letterAt 11 = .ok (.arraylength, 1) := by decide +kernel
theorem dX3_letterAt_12 : decode cX3_letterAt 12 = .ok (.if_icmp .ge 9, 3) := by decide +kernel
theorem dX3_letterAt_15 : decode cX3_letterAt 15 = .ok (.aload_n 0, 1) := by decide +kernel
theorem dX3_letterAt_16 : decode cX3_letterAt 16 = .ok (.iload_n 2, 1) := by decide +kernel
theorem dX3_letterAt_17 : decode cX3_letterAt 17 = .ok (.caload, 1) := by decide +kernel
theorem dX3_letterAt_18 : decode cX3_letterAt 18 = .ok (.goto 5, 3) := by decide +kernel
theorem dX3_letterAt_21 : decode cX3_letterAt 21 = .ok (.bipush (-4), 2) := by decide +kernel
theorem dX3_letterAt_23 : decode cX3_letterAt 23 = .ok (.ireturn, 1) := by decide +kernel
theorem dX3_isFigure_0 : decode cX3_isFigure 0 = .ok (.iload_n 0, 1) := by decide +kernel
theorem dX3_isFigure_1 : decode cX3_isFigure 1 = .ok (.bipush 48, 2) := by decide +kernel
theorem dX3_isFigure_3 : decode cX3_isFigure 3 = .ok (.if_icmp .lt 13, 3) := by decide +kernel
theorem dX3_isFigure_6 : decode cX3_isFigure 6 = .ok (.iload_n 0, 1) := by decide +kernel
theorem dX3_isFigure_7 : decode cX3_isFigure 7 = .ok (.bipush 57, 2) := by decide +kernel
theorem dX3_isFigure_9 : decode cX3_isFigure 9 = .ok (.if_icmp .gt 7, 3) := by decide +kernel
theorem dX3_isFigure_12 : decode cX3_isFigure 12 = .ok (.iconst 1, 1) := by decide +kernel
theorem dX3_isFigure_13 : decode cX3_isFigure 13 = .ok (.goto 4, 3) := by decide +kernel
theorem dX3_isFigure_16 : decode cX3_isFigure 16 = .ok (.iconst 0, 1) := by decide +kernel
theorem dX3_isFigure_17 : decode cX3_isFigure 17 = .ok (.ireturn, 1) := by decide +kernel
set_option maxRecDepth 20000 in
theorem ggX3_figuresAt_X3_letterAt : GoodIn wsX3_figuresAt wsX3_letterAt := goodIn_r _ [4] (by decide +kernel) (by decide +kernel)
set_option maxRecDepth 20000 in
theorem gX3_figuresAt_X3_letterAt : GoodIn wsX3_figuresAt (va_wsS RX3 20 yX3_letterAt wsX3_letterAt) := goodIn_app (goodIn_of _ (by decide +kernel)) ggX3_figuresAt_X3_letterAt
set_option maxRecDepth 20000 in
theorem ggX3_figuresAt_X3_isFigure : GoodIn wsX3_figuresAt wsX3_isFigure := goodIn_r _ [7] (by decide +kernel) (by decide +kernel)
set_option maxRecDepth 20000 in
theorem gX3_figuresAt_X3_isFigure : GoodIn wsX3_figuresAt (va_wsS RX3 42 yX3_isFigure wsX3_isFigure) := goodIn_app (goodIn_of _ (by decide +kernel)) ggX3_figuresAt_X3_isFigure
theorem dX3_figuresAt_0 : decode cX3_figuresAt 0 = .ok (.aload_n 0, 1) := by decide +kernel
theorem dX3_figuresAt_1 : decode cX3_figuresAt 1 = .ok (.iload_n 1, 1) := by decide +kernel
theorem dX3_figuresAt_2 : decode cX3_figuresAt 2 = .ok (.iload_n 2, 1) := by decide +kernel
theorem dX3_figuresAt_3 : decode cX3_figuresAt 3 = .ok (.invokestatic 20, 3) := by decide +kernel
theorem dX3_figuresAt_6 : decode cX3_figuresAt 6 = .ok (.invokestatic 42, 3) := by decide +kernel
theorem dX3_figuresAt_9 : decode cX3_figuresAt 9 = .ok (.ifCond .ne 5, 3) := by decide +kernel
theorem dX3_figuresAt_12 : decode cX3_figuresAt 12 = .ok (.iconst 0, 1) := by decide +kernel
theorem dX3_figuresAt_13 : decode cX3_figuresAt 13 = .ok (.ireturn, 1) := by decide +kernel
theorem dX3_figuresAt_14 : decode cX3_figuresAt 14 = .ok (.aload_n 0, 1) := by decide +kernel
theorem dX3_figuresAt_15 : decode cX3_figuresAt 15 = .ok (.iload_n 1, 1) := by decide +kernel
theorem dX3_figuresAt_16 : decode cX3_figuresAt 16 = .ok (.iload_n 2, 1) := by decide +kernel
theorem dX3_figuresAt_17 : decode cX3_figuresAt 17 = .ok (.iconst 1, 1) := by decide +kernel
theorem dX3_figuresAt_18 : decode cX3_figuresAt 18 = .ok (.iadd, 1) := by decide +kernel
theorem dX3_figuresAt_19 : decode cX3_figuresAt 19 = .ok (.invokestatic 20, 3) := by decide +kernel
theorem dX3_figuresAt_22 : decode cX3_figuresAt 22 = .ok (.invokestatic 42, 3) := by decide +kernel
theorem dX3_figuresAt_25 : decode cX3_figuresAt 25 = .ok (.ifCond .eq 7, 3) := by decide +kernel
theorem dX3_figuresAt_28 : decode cX3_figuresAt 28 = .ok (.iconst 2, 1) := by decide +kernel
theorem dX3_figuresAt_29 : decode cX3_figuresAt 29 = .ok (.goto 4, 3) := by decide +kernel
theorem dX3_figuresAt_32 : decode cX3_figuresAt 32 = .ok (.iconst 1, 1) := by decide +kernel
theorem dX3_figuresAt_33 : decode cX3_figuresAt 33 = .ok (.ireturn, 1) := by decide +kernel
set_option maxRecDepth 20000 in
theorem ggX3_numberOf_X3_letterAt : GoodIn wsX3_numberOf wsX3_letterAt := goodIn_r _ [4] (by decide +kernel) (by decide +kernel)
set_option maxRecDepth 20000 in
theorem gX3_numberOf_X3_letterAt : GoodIn wsX3_numberOf (va_wsS RX3 20 yX3_letterAt wsX3_letterAt) := goodIn_app (goodIn_of _ (by decide +kernel)) ggX3_numberOf_X3_letterAt
theorem dX3_numberOf_0 : decode cX3_numberOf 0 = .ok (.aload_n 0, 1) := by decide +kernel
theorem dX3_numberOf_1 : decode cX3_numberOf 1 = .ok (.iload_n 1, 1) := by decide +kernel
theorem dX3_numberOf_2 : decode cX3_numberOf 2 = .ok (.iload_n 2, 1) := by decide +kernel
theorem dX3_numberOf_3 : decode cX3_numberOf 3 = .ok (.invokestatic 20, 3) := by decide +kernel
theorem dX3_numberOf_6 : decode cX3_numberOf 6 = .ok (.bipush 48, 2) := by decide +kernel
theorem dX3_numberOf_8 : decode cX3_numberOf 8 = .ok (.isub, 1) := by decide +kernel
theorem dX3_numberOf_9 : decode cX3_numberOf 9 = .ok (.istore 4, 2) := by decide +kernel
theorem dX3_numberOf_11 : decode cX3_numberOf 11 = .ok (.iload_n 3, 1) := by decide +kernel
theorem dX3_numberOf_12 : decode cX3_numberOf 12 = .ok (.iconst 1, 1) := by decide +kernel
theorem dX3_numberOf_13 : decode cX3_numberOf 13 = .ok (.if_icmp .ne 8, 3) := by decide +kernel
theorem dX3_numberOf_16 : decode cX3_numberOf 16 = .ok (.iload 4, 2) := by decide +kernel
theorem dX3_numberOf_18 : decode cX3_numberOf 18 = .ok (.goto 20, 3) := by decide +kernel
theorem dX3_numberOf_21 : decode cX3_numberOf 21 = .ok (.bipush 10, 2) := by decide +kernel
theorem dX3_numberOf_23 : decode cX3_numberOf 23 = .ok (.iload 4, 2) := by decide +kernel
theorem dX3_numberOf_25 : decode cX3_numberOf 25 = .ok (.imul, 1) := by decide +kernel
theorem dX3_numberOf_26 : decode cX3_numberOf 26 = .ok (.aload_n 0, 1) := by decide +kernel
theorem dX3_numberOf_27 : decode cX3_numberOf 27 = .ok (.iload_n 1, 1) := by decide +kernel
theorem dX3_numberOf_28 : decode cX3_numberOf 28 = .ok (.iload_n 2, 1) := by decide +kernel
theorem dX3_numberOf_29 : decode cX3_numberOf 29 = .ok (.iconst 1, 1) := by decide +kernel
theorem dX3_numberOf_30 : decode cX3_numberOf 30 = .ok (.iadd, 1) := by decide +kernel
theorem dX3_numberOf_31 : decode cX3_numberOf 31 = .ok (.invokestatic 20, 3) := by decide +kernel
theorem dX3_numberOf_34 : decode cX3_numberOf 34 = .ok (.iadd, 1) := by decide +kernel
theorem dX3_numberOf_35 : decode cX3_numberOf 35 = .ok (.bipush 48, 2) := by decide +kernel
theorem dX3_numberOf_37 : decode cX3_numberOf 37 = .ok (.isub, 1) := by decide +kernel
theorem dX3_numberOf_38 : decode cX3_numberOf 38 = .ok (.ireturn, 1) := by decide +kernel
set_option maxRecDepth 20000 in
theorem ggX3_putItem_X0_turnFact : GoodIn wsX3_putItem wsX0_turnFact := goodIn_r _ [7, 8, 9, 10, 11, 12, 13, 14, 15, 16, 17, 18, 19, 6, 20, 21, 22, 23, 24, 25, 26, 27, 28, 29, 30, 31, 32, 54, 55, 56, 57, 58, 59, 60, 61, 62, 63, 64] (by decide +kernel) (by decide +kernel)
set_option maxRecDepth 20000 in
theorem gX3_putItem_X0_turnFact : GoodIn wsX3_putItem (wsV RX3 46 RX0 yX0_turnFact wsX0_turnFact) := goodIn_app (goodIn_of _ (by decide +kernel)) ggX3_putItem_X0_turnFact
set_option maxRecDepth 20000 in
theorem ggX3_putItem_X5_isFact : GoodIn wsX3_putItem wsX5_isFact := goodIn_r _ [13, 14, 15, 12, 16] (by decide +kernel) (by decide +kernel)
set_option maxRecDepth 20000 in
theorem gX3_putItem_X5_isFact_n50 : GoodIn wsX3_putItem (wsX5_isFact) := ggX3_putItem_X5_isFact
set_option maxRecDepth 20000 in
theorem ggX3_putItem_X5_isWithin : GoodIn wsX3_putItem wsX5_isWithin := goodIn_r _ [16] (by decide +kernel) (by decide +kernel)
set_option maxRecDepth 20000 in
theorem gX3_putItem_X5_isWithin_n57 : GoodIn wsX3_putItem (wsX5_isWithin) := ggX3_putItem_X5_isWithin
set_option maxRecDepth 20000 in
theorem ggX3_putItem_X5_isSaying : GoodIn wsX3_putItem wsX5_isSaying := goodIn_r _ [34, 14, 15, 12, 16, 35, 36, 37] (by decide +kernel) (by decide +kernel)
set_option maxRecDepth 20000 in
theorem gX3_putItem_X5_isSaying_n61 : GoodIn wsX3_putItem (wsX5_isSaying) := ggX3_putItem_X5_isSaying
set_option maxRecDepth 20000 in
theorem ggX3_putItem_X0_addSaying : GoodIn wsX3_putItem wsX0_addSaying := goodIn_r _ [41, 9, 42, 43, 44, 45, 10, 25, 46, 12, 47, 48, 49, 50, 51, 52, 54, 55, 56, 57, 58, 59, 60, 61, 62, 63, 64] (by decide +kernel) (by decide +kernel)
set_option maxRecDepth 20000 in
theorem gX3_putItem_X0_addSaying : GoodIn wsX3_putItem (wsV RX3 65 RX0 yX0_addSaying wsX0_addSaying) := goodIn_app (goodIn_of _ (by decide +kernel)) ggX3_putItem_X0_addSaying
theorem dX3_putItem_0 : decode cX3_putItem 0 = .ok (.iload_n 1, 1) := by decide +kernel
theorem dX3_putItem_1 : decode cX3_putItem 1 = .ok (.bipush 102, 2) := by decide +kernel
theorem dX3_putItem_3 : decode cX3_putItem 3 = .ok (.if_icmp .ne 23, 3) := by decide +kernel
theorem dX3_putItem_6 : decode cX3_putItem 6 = .ok (.aload_n 2, 1) := by decide +kernel
theorem dX3_putItem_7 : decode cX3_putItem 7 = .ok (.aload_n 0, 1) := by decide +kernel
theorem dX3_putItem_8 : decode cX3_putItem 8 = .ok (.getfield 11, 3) := by decide +kernel
theorem dX3_putItem_11 : decode cX3_putItem 11 = .ok (.iconst 0, 1) := by decide +kernel
theorem dX3_putItem_12 : decode cX3_putItem 12 = .ok (.iaload, 1) := by decide +kernel
theorem dX3_putItem_13 : decode cX3_putItem 13 = .ok (.invokevirtual 46, 3) := by decide +kernel
theorem dX3_putItem_16 : decode cX3_putItem 16 = .ok (.aload_n 0, 1) := by decide +kernel
theorem dX3_putItem_17 : decode cX3_putItem 17 = .ok (.getfield 11, 3) := by decide +kernel
theorem dX3_putItem_20 : decode cX3_putItem 20 = .ok (.iconst 0, 1) := by decide +kernel
theorem dX3_putItem_21 : decode cX3_putItem 21 = .ok (.iaload, 1) := by decide +kernel
theorem dX3_putItem_22 : decode cX3_putItem 22 = .ok (.invokestatic 50, 3) := by decide +kernel
theorem dX3_putItem_25 : decode cX3_putItem 25 = .ok (.ireturn, 1) := by decide +kernel
theorem dX3_putItem_26 : decode cX3_putItem 26 = .ok (.iload_n 1, 1) := by decide +kernel
theorem dX3_putItem_27 : decode cX3_putItem 27 = .ok (.bipush 114, 2) := by decide +kernel
theorem dX3_putItem_29 : decode cX3_putItem 29 = .ok (.if_icmp .ne 26, 3) := by decide +kernel
theorem dX3_putItem_32 : decode cX3_putItem 32 = .ok (.aload_n 2, 1) := by decide +kernel
theorem dX3_putItem_33 : decode cX3_putItem 33 = .ok (.aload_n 0, 1) := by decide +kernel
theorem dX3_putItem_34 : decode cX3_putItem 34 = .ok (.getfield 11, 3) := by decide +kernel
theorem dX3_putItem_37 : decode cX3_putItem 37 = .ok (.iconst 0, 1) := by decide +kernel
theorem dX3_putItem_38 : decode cX3_putItem 38 = .ok (.iaload, 1) := by decide +kernel
theorem dX3_putItem_39 : decode cX3_putItem 39 = .ok (.putfield 53, 3) := by decide +kernel
theorem dX3_putItem_42 : decode cX3_putItem 42 = .ok (.aload_n 0, 1) := by decide +kernel
theorem dX3_putItem_43 : decode cX3_putItem 43 = .ok (.getfield 11, 3) := by decide +kernel
theorem dX3_putItem_46 : decode cX3_putItem 46 = .ok (.iconst 0, 1) := by decide +kernel
theorem dX3_putItem_47 : decode cX3_putItem 47 = .ok (.iaload, 1) := by decide +kernel
theorem dX3_putItem_48 : decode cX3_putItem 48 = .ok (.iconst 1, 1) := by decide +kernel
theorem dX3_putItem_49 : decode cX3_putItem 49 = .ok (.bipush 20, 2) := by decide +kernel
theorem dX3_putItem_51 : decode cX3_putItem 51 = .ok (.invokestatic 57, 3) := by decide +kernel
theorem dX3_putItem_54 : decode cX3_putItem 54 = .ok (.ireturn, 1) := by decide +kernel
theorem dX3_putItem_55 : decode cX3_putItem 55 = .ok (.aload_n 0, 1) := by decide +kernel
theorem dX3_putItem_56 : decode cX3_putItem 56 = .ok (.getfield 11, 3) := by decide +kernel
theorem dX3_putItem_59 : decode cX3_putItem 59 = .ok (.iconst 0, 1) := by decide +kernel
theorem dX3_putItem_60 : decode cX3_putItem 60 = .ok (.iaload, 1) := by decide +kernel
theorem dX3_putItem_61 : decode cX3_putItem 61 = .ok (.aload_n 0, 1) := by decide +kernel
theorem dX3_putItem_62 : decode cX3_putItem 62 = .ok (.getfield 11, 3) := by decide +kernel
theorem dX3_putItem_65 : decode cX3_putItem 65 = .ok (.iconst 1, 1) := by decide +kernel
theorem dX3_putItem_66 : decode cX3_putItem 66 = .ok (.iaload, 1) := by decide +kernel
theorem dX3_putItem_67 : decode cX3_putItem 67 = .ok (.aload_n 0, 1) := by decide +kernel
theorem dX3_putItem_68 : decode cX3_putItem 68 = .ok (.getfield 11, 3) := by decide +kernel
theorem dX3_putItem_71 : decode cX3_putItem 71 = .ok (.iconst 2, 1) := by decide +kernel
theorem dX3_putItem_72 : decode cX3_putItem 72 = .ok (.iaload, 1) := by decide +kernel
theorem dX3_putItem_73 : decode cX3_putItem 73 = .ok (.aload_n 0, 1) := by decide +kernel
theorem dX3_putItem_74 : decode cX3_putItem 74 = .ok (.getfield 11, 3) := by decide +kernel
theorem dX3_putItem_77 : decode cX3_putItem 77 = .ok (.iconst 3, 1) := by decide +kernel
theorem dX3_putItem_78 : decode cX3_putItem 78 = .ok (.iaload, 1) := by decide +kernel
theorem dX3_putItem_79 : decode cX3_putItem 79 = .ok (.invokestatic 61, 3) := by decide +kernel
theorem dX3_putItem_82 : decode cX3_putItem 82 = .ok (.ifCond .eq 40, 3) := by decide +kernel
theorem dX3_putItem_85 : decode cX3_putItem 85 = .ok (.aload_n 2, 1) := by decide +kernel
theorem dX3_putItem_86 : decode cX3_putItem 86 = .ok (.aload_n 0, 1) := by decide +kernel
theorem dX3_putItem_87 : decode cX3_putItem 87 = .ok (.getfield 11, 3) := by decide +kernel
theorem dX3_putItem_90 : decode cX3_putItem 90 = .ok (.iconst 0, 1) := by decide +kernel
theorem dX3_putItem_91 : decode cX3_putItem 91 = .ok (.iaload, 1) := by decide +kernel
theorem dX3_putItem_92 : decode cX3_putItem 92 = .ok (.aload_n 0, 1) := by decide +kernel
theorem dX3_putItem_93 : decode cX3_putItem 93 = .ok (.getfield 11, 3) := by decide +kernel
theorem dX3_putItem_96 : decode cX3_putItem 96 = .ok (.iconst 1, 1) := by decide +kernel
theorem dX3_putItem_97 : decode cX3_putItem 97 = .ok (.iaload, 1) := by decide +kernel
theorem dX3_putItem_98 : decode cX3_putItem 98 = .ok (.aload_n 0, 1) := by decide +kernel
theorem dX3_putItem_99 : decode cX3_putItem 99 = .ok (.getfield 11, 3) := by decide +kernel
theorem dX3_putItem_102 : decode cX3_putItem 102 = .ok (.iconst 2, 1) := by decide +kernel
theorem dX3_putItem_103 : decode cX3_putItem 103 = .ok (.iaload, 1) := by decide +kernel
theorem dX3_putItem_104 : decode cX3_putItem 104 = .ok (.aload_n 0, 1) := by decide +kernel
theorem dX3_putItem_105 : decode cX3_putItem 105 = .ok (.getfield 11, 3) := by decide +kernel
theorem dX3_putItem_108 : decode cX3_putItem 108 = .ok (.iconst 3, 1) := by decide +kernel
theorem dX3_putItem_109 : decode cX3_putItem 109 = .ok (.iaload, 1) := by decide +kernel
theorem dX3_putItem_110 : decode cX3_putItem 110 = .ok (.invokevirtual 65, 3) := by decide +kernel
theorem dX3_putItem_113 : decode cX3_putItem 113 = .ok (.bipush (-3), 2) := by decide +kernel
theorem dX3_putItem_115 : decode cX3_putItem 115 = .ok (.if_icmp .eq 7, 3) := by decide +kernel
theorem dX3_putItem_118 : decode cX3_putItem 118 = .ok (.iconst 1, 1) := by decide +kernel
theorem dX3_putItem_119 : decode cX3_putItem 119 = .ok (.goto 4, 3) := by decide +kernel
theorem dX3_putItem_122 : decode cX3_putItem 122 = .ok (.iconst 0, 1) := by decide +kernel
theorem dX3_putItem_123 : decode cX3_putItem 123 = .ok (.ireturn, 1) := by decide +kernel
theorem dX4_init_0 : decode cX4_init 0 = .ok (.aload_n 0, 1) := by decide +kernel
theorem dX4_init_1 : decode cX4_init 1 = .ok (.invokespecial 3, 3) := by decide +kernel
theorem dX4_init_4 : decode cX4_init 4 = .ok (.aload_n 0, 1) := by decide +kernel
theorem dX4_init_5 : decode cX4_init 5 = .ok (.bipush 6, 2) := by decide +kernel
theorem dX4_init_7 : decode cX4_init 7 = .ok (.newarray .int, 2) := by decide +kernel
theorem dX4_init_9 : decode cX4_init 9 = .ok (.putfield 9, 3) := by decide +kernel
theorem dX4_init_12 : decode cX4_init 12 = .ok (.aload_n 0, 1) := by decide +kernel
theorem dX4_init_13 : decode cX4_init 13 = .ok (.bipush 6, 2) := by decide +kernel
theorem dX4_init_15 : decode cX4_init 15 = .ok (.newarray .boolean, 2) := by decide +kernel
theorem dX4_init_17 : decode cX4_init 17 = .ok (.putfield 15, 3) := by decide +kernel
theorem dX4_init_20 : decode cX4_init 20 = .ok (.return_, 1) := by decide +kernel
theorem dX4_clear_0 : decode cX4_clear 0 = .ok (.aload_n 0, 1) := by decide +kernel
theorem dX4_clear_1 : decode cX4_clear 1 = .ok (.iconst 0, 1) := by decide +kernel
theorem dX4_clear_2 : decode cX4_clear 2 = .ok (.putfield 19, 3) := by decide +kernel
theorem dX4_clear_5 : decode cX4_clear 5 = .ok (.return_, 1) := by decide +kernel
theorem dX4_add_0 : decode cX4_add 0 = .ok (.aload_n 0, 1) := by decide +kernel
theorem dX4_add_1 : decode cX4_add 1 = .ok (.getfield 19, 3) := by decide +kernel
theorem dX4_add_4 : decode cX4_add 4 = .ok (.bipush 6, 2) := by decide +kernel
theorem dX4_add_6 : decode cX4_add 6 = .ok (.if_icmp .lt 6, 3) := by decide +kernel
theorem dX4_add_9 : decode cX4_add 9 = .ok (.bipush (-3), 2) := by decide +kernel
theorem dX4_add_11 : decode cX4_add 11 = .ok (.ireturn, 1) := by decide +kernel
theorem dX4_add_12 : decode cX4_add 12 = .ok (.aload_n 0, 1) := by decide +kernel
theorem dX4_add_13 : decode cX4_add 13 = .ok (.getfield 9, 3) := by decide +kernel
theorem dX4_add_16 : decode cX4_add 16 = .ok (.aload_n 0, 1) := by decide +kernel
theorem dX4_add_17 : decode cX4_add 17 = .ok (.getfield 19, 3) := by decide +kernel
theorem dX4_add_20 : decode cX4_add 20 = .ok (.iload_n 1, 1) := by decide +kernel
theorem dX4_add_21 : decode cX4_add 21 = .ok (.iastore, 1) := by decide +kernel
theorem dX4_add_22 : decode cX4_add 22 = .ok (.aload_n 0, 1) := by decide +kernel
theorem dX4_add_23 : decode cX4_add 23 = .ok (.getfield 15, 3) := by decide +kernel
theorem dX4_add_26 : decode cX4_add 26 = .ok (.aload_n 0, 1) := by decide +kernel
theorem dX4_add_27 : decode cX4_add 27 = .ok (.getfield 19, 3) := by decide +kernel
theorem dX4_add_30 : decode cX4_add 30 = .ok (.iload_n 2, 1) := by decide +kernel
theorem dX4_add_31 : decode cX4_add 31 = .ok (.bastore, 1) := by decide +kernel
theorem dX4_add_32 : decode cX4_add 32 = .ok (.aload_n 0, 1) := by decide +kernel
theorem dX4_add_33 : decode cX4_add 33 = .ok (.dup, 1) := by decide +kernel
theorem dX4_add_34 : decode cX4_add 34 = .ok (.getfield 19, 3) := by decide +kernel
theorem dX4_add_37 : decode cX4_add 37 = .ok (.iconst 1, 1) := by decide +kernel
theorem dX4_add_38 : decode cX4_add 38 = .ok (.iadd, 1) := by decide +kernel
theorem dX4_add_39 : decode cX4_add 39 = .ok (.putfield 19, 3) := by decide +kernel
theorem dX4_add_42 : decode cX4_add 42 = .ok (.aload_n 0, 1) := by decide +kernel
theorem dX4_add_43 : decode cX4_add 43 = .ok (.getfield 19, 3) := by decide +kernel
theorem dX4_add_46 : decode cX4_add 46 = .ok (.ireturn, 1) := by decide +kernel
set_option maxRecDepth 20000 in
theorem ggX4_worldsAsSeen_X0_policedWorlds : GoodIn wsX4_worldsAsSeen wsX0_policedWorlds := goodIn_r _ [9, 10, 11, 12, 13, 14, 8, 15, 16, 17, 18, 19, 20, 21, 25, 26, 27, 28, 29, 30, 31, 32, 33, 34, 35] (by decide +kernel) (by decide +kernel)
set_option maxRecDepth 20000 in
theorem gX4_worldsAsSeen_X0_policedWorlds : GoodIn wsX4_worldsAsSeen (wsV RX4 25 RX0 yX0_policedWorlds wsX0_policedWorlds) := goodIn_app (goodIn_of _ (by decide +kernel)) ggX4_worldsAsSeen_X0_policedWorlds
theorem dX4_worldsAsSeen_0 : decode cX4_worldsAsSeen 0 = .ok (.ldc2_w 23, 3) := by decide +kernel
theorem dX4_worldsAsSeen_3 : decode cX4_worldsAsSeen 3 = .ok (.lstore_n 2, 1) := by decide +kernel
theorem dX4_worldsAsSeen_4 : decode cX4_worldsAsSeen 4 = .ok (.iconst 0, 1) := by decide +kernel
theorem dX4_worldsAsSeen_5 : decode cX4_worldsAsSeen 5 = .ok (.istore 4, 2) := by decide +kernel
theorem dX4_worldsAsSeen_7 : decode cX4_worldsAsSeen 7 = .ok (.iload 4, 2) := by decide +kernel
theorem dX4_worldsAsSeen_9 : decode cX4_worldsAsSeen 9 = .ok (.aload_n 0, 1) := by decide +kernel
theorem dX4_worldsAsSeen_10 : decode cX4_worldsAsSeen 10 = .ok (.getfield 19, 3) := by decide +kernel
theorem dX4_worldsAsSeen_13 : decode cX4_worldsAsSeen 13 = .ok (.if_icmp .ge 53, 3) := by decide +kernel
theorem dX4_worldsAsSeen_16 : decode cX4_worldsAsSeen 16 = .ok (.iload 4, 2) := by decide +kernel
theorem dX4_worldsAsSeen_18 : decode cX4_worldsAsSeen 18 = .ok (.bipush 6, 2) := by decide +kernel
theorem dX4_worldsAsSeen_20 : decode cX4_worldsAsSeen 20 = .ok (.if_icmp .ge 46, 3) := by decide +kernel
theorem dX4_worldsAsSeen_23 : decode cX4_worldsAsSeen 23 = .ok (.aload_n 1, 1) := by decide +kernel
theorem dX4_worldsAsSeen_24 : decode cX4_worldsAsSeen 24 = .ok (.aload_n 0, 1) := by decide +kernel
theorem dX4_worldsAsSeen_25 : decode cX4_worldsAsSeen 25 = .ok (.getfield 9, 3) := by decide +kernel
theorem dX4_worldsAsSeen_28 : decode cX4_worldsAsSeen 28 = .ok (.iload 4, 2) := by decide +kernel
theorem dX4_worldsAsSeen_30 : decode cX4_worldsAsSeen 30 = .ok (.iaload, 1) := by decide +kernel
theorem dX4_worldsAsSeen_31 : decode cX4_worldsAsSeen 31 = .ok (.invokevirtual 25, 3) := by decide +kernel
theorem dX4_worldsAsSeen_34 : decode cX4_worldsAsSeen 34 = .ok (.lstore 5, 2) := by decide +kernel
theorem dX4_worldsAsSeen_36 : decode cX4_worldsAsSeen 36 = .ok (.lload_n 2, 1) := by decide +kernel
theorem dX4_worldsAsSeen_37 : decode cX4_worldsAsSeen 37 = .ok (.aload_n 0, 1) := by decide +kernel
theorem dX4_worldsAsSeen_38 : decode cX4_worldsAsSeen 38 = .ok (.getfield 15, 3) := by decide +kernel
theorem dX4_worldsAsSeen_41 : decode cX4_worldsAsSeen 41 = .ok (.iload 4, 2) := by decide +kernel
theorem dX4_worldsAsSeen_43 : decode cX4_worldsAsSeen 43 = .ok (.baload, 1) := by decide +kernel
theorem dX4_worldsAsSeen_44 : decode cX4_worldsAsSeen 44 = .ok (.ifCond .eq 8, 3) := by decide +kernel
theorem dX4_worldsAsSeen_47 : decode cX4_worldsAsSeen 47 = .ok (.lload 5, 2) := by decide +kernel
theorem dX4_worldsAsSeen_49 : decode cX4_worldsAsSeen 49 = .ok (.goto 9, 3) := by decide +kernel
theorem dX4_worldsAsSeen_52 : decode cX4_worldsAsSeen 52 = .ok (.lload 5, 2) := by decide +kernel
theorem dX4_worldsAsSeen_54 : decode cX4_worldsAsSeen 54 = .ok (.ldc2_w 23, 3) := by decide +kernel
theorem dX4_worldsAsSeen_57 : decode cX4_worldsAsSeen 57 = .ok (.lxor, 1) := by decide +kernel
theorem dX4_worldsAsSeen_58 : decode cX4_worldsAsSeen 58 = .ok (.land, 1) := by decide +kernel
theorem dX4_worldsAsSeen_59 : decode cX4_worldsAsSeen 59 = .ok (.lstore_n 2, 1) := by decide +kernel
theorem dX4_worldsAsSeen_60 : decode cX4_worldsAsSeen 60 = .ok (.iinc 4 1, 3) := by decide +kernel
theorem dX4_worldsAsSeen_63 : decode cX4_worldsAsSeen 63 = .ok (.goto (-56), 3) := by decide +kernel
theorem dX4_worldsAsSeen_66 : decode cX4_worldsAsSeen 66 = .ok (.lload_n 2, 1) := by decide +kernel
theorem dX4_worldsAsSeen_67 : decode cX4_worldsAsSeen 67 = .ok (.lreturn, 1) := by decide +kernel
set_option maxRecDepth 20000 in
theorem ggX5_init_X3_init : GoodIn wsX5_init wsX3_init := goodIn_r _ [29, 30, 2, 3, 31, 32, 195] (by decide +kernel) (by decide +kernel)
set_option maxRecDepth 20000 in
theorem gX5_init_X3_init_n15 : GoodIn wsX5_init (wsX3_init) := ggX5_init_X3_init
set_option maxRecDepth 20000 in
theorem ggX5_init_X5_firstForce : GoodIn wsX5_init wsX5_firstForce := goodIn_r _ [36, 11, 12, 13, 6, 7, 8, 37, 38, 39, 2, 3, 40, 31, 41, 42, 43, 44, 45, 46, 47, 48, 49, 50, 51, 52, 53, 54, 55, 56, 57, 58, 59, 60, 61, 62, 63, 4, 64, 65, 66, 67, 68, 69, 70, 71, 72, 73, 74, 75, 76, 77, 78, 79, 80, 81, 82, 83, 84, 85, 86, 87, 88, 89, 90, 91, 92, 93, 28, 29, 30, 32, 94, 95, 96, 97, 98, 99, 100, 101, 102, 103, 104, 105, 106, 107, 108, 109, 110, 111, 112, 113, 114, 115, 116, 117, 118, 119, 120, 121, 122, 123, 124, 125, 126, 127, 128, 129, 130, 131, 132, 133, 134, 35, 135, 136, 137, 138, 139, 140, 141, 142, 143, 144, 145, 146, 147, 148, 149, 150, 151, 152, 153, 154, 155, 156, 157, 158, 159, 160, 161, 162, 163, 164, 165, 166, 167, 168, 196, 197, 198, 199, 200, 201, 202, 203, 204, 205, 206, 195] (by decide +kernel) (by decide +kernel)
set_option maxRecDepth 20000 in
theorem gX5_init_X5_firstForce : GoodIn wsX5_init (va_wsS RX5 20 yX5_firstForce wsX5_firstForce) := goodIn_app (goodIn_of _ (by decide +kernel)) ggX5_init_X5_firstForce
set_option maxRecDepth 20000 in
theorem ggX5_init_X0_init : GoodIn wsX5_init wsX0_init := goodIn_r _ [38, 39, 2, 3, 40, 31, 41, 42, 43, 44, 45, 46, 47, 196, 197, 198, 199, 200, 201, 202, 203, 204, 205, 206] (by decide +kernel) (by decide +kernel)
set_option maxRecDepth 20000 in
theorem gX5_init_X0_init_n30 : GoodIn wsX5_init (wsX0_init) := ggX5_init_X0_init
set_option maxRecDepth 20000 in
theorem ggX5_init_X2_init : GoodIn wsX5_init wsX2_init := goodIn_r _ [171, 172, 2, 3, 173, 174, 12, 13, 37, 38, 39, 40, 31, 41, 42, 43, 44, 45, 46, 47, 207, 208, 196, 197, 198, 199, 200, 201, 202, 203, 204, 205, 206] (by decide +kernel) (by decide +kernel)
set_option maxRecDepth 20000 in
theorem gX5_init_X2_init : GoodIn wsX5_init (wsX2_init) := ggX5_init_X2_init
set_option maxRecDepth 20000 in
theorem ggX5_init_X4_init : GoodIn wsX5_init wsX4_init := goodIn_r _ [176, 177, 2, 3, 31, 178, 179, 180, 209, 210, 211] (by decide +kernel) (by decide +kernel)
set_option maxRecDepth 20000 in
theorem gX5_init_X4_init_n48 : GoodIn wsX5_init (wsX4_init) := ggX5_init_X4_init
set_option maxRecDepth 20000 in
theorem ggX5_init_X1_init : GoodIn wsX5_init wsX1_init := goodIn_r _ [182, 183, 2, 3, 31, 184, 185, 212, 213] (by decide +kernel) (by decide +kernel)
set_option maxRecDepth 20000 in
theorem gX5_init_X1_init_n55 : GoodIn wsX5_init (wsX1_init) := ggX5_init_X1_init
theorem dX5_init_0 : decode cX5_init 0 = .ok (.aload_n 0, 1) := by decide +kernel
theorem dX5_init_1 : decode cX5_init 1 = .ok (.invokespecial 1, 3) := by decide +kernel
theorem dX5_init_4 : decode cX5_init 4 = .ok (.aload_n 0, 1) := by decide +kernel
theorem dX5_init_5 : decode cX5_init 5 = .ok (.sipush 200, 3) := by decide +kernel
theorem dX5_init_8 : decode cX5_init 8 = .ok (.newarray .char, 2) := by decide +kernel
theorem dX5_init_10 : decode cX5_init 10 = .ok (.putfield 9, 3) := by decide +kernel
theorem dX5_init_13 : decode cX5_init 13 = .ok (.aload_n 0, 1) := by decide +kernel
theorem dX5_init_14 : decode cX5_init 14 = .ok (.new 13, 3) := by decide +kernel
theorem dX5_init_17 : decode cX5_init 17 = .ok (.dup, 1) := by decide +kernel
theorem dX5_init_18 : decode cX5_init 18 = .ok (.invokespecial 15, 3) := by decide +kernel
theorem dX5_init_21 : decode cX5_init 21 = .ok (.putfield 16, 3) := by decide +kernel
theorem dX5_init_24 : decode cX5_init 24 = .ok (.aload_n 0, 1) := by decide +kernel
theorem dX5_init_25 : decode cX5_init 25 = .ok (.invokestatic 20, 3) := by decide +kernel
theorem dX5_init_28 : decode cX5_init 28 = .ok (.putfield 24, 3) := by decide +kernel
theorem dX5_init_31 : decode cX5_init 31 = .ok (.aload_n 0, 1) := by decide +kernel
theorem dX5_init_32 : decode cX5_init 32 = .ok (.new 28, 3) := by decide +kernel
theorem dX5_init_35 : decode cX5_init 35 = .ok (.dup, 1) := by decide +kernel
theorem dX5_init_36 : decode cX5_init 36 = .ok (.invokespecial 30, 3) := by decide +kernel
theorem dX5_init_39 : decode cX5_init 39 = .ok (.putfield 31, 3) := by decide +kernel
theorem dX5_init_42 : decode cX5_init 42 = .ok (.aload_n 0, 1) := by decide +kernel
theorem dX5_init_43 : decode cX5_init 43 = .ok (.new 34, 3) := by decide +kernel
theorem dX5_init_46 : decode cX5_init 46 = .ok (.dup, 1) := by decide +kernel
theorem dX5_init_47 : decode cX5_init 47 = .ok (.bipush 8, 2) := by decide +kernel
theorem dX5_init_49 : decode cX5_init 49 = .ok (.invokespecial 36, 3) := by decide +kernel
theorem dX5_init_52 : decode cX5_init 52 = .ok (.putfield 39, 3) := by decide +kernel
theorem dX5_init_55 : decode cX5_init 55 = .ok (.aload_n 0, 1) := by decide +kernel
theorem dX5_init_56 : decode cX5_init 56 = .ok (.new 34, 3) := by decide +kernel
theorem dX5_init_59 : decode cX5_init 59 = .ok (.dup, 1) := by decide +kernel
theorem dX5_init_60 : decode cX5_init 60 = .ok (.iconst 2, 1) := by decide +kernel
theorem dX5_init_61 : decode cX5_init 61 = .ok (.invokespecial 36, 3) := by decide +kernel
theorem dX5_init_64 : decode cX5_init 64 = .ok (.putfield 43, 3) := by decide +kernel
theorem dX5_init_67 : decode cX5_init 67 = .ok (.aload_n 0, 1) := by decide +kernel
theorem dX5_init_68 : decode cX5_init 68 = .ok (.new 46, 3) := by decide +kernel
theorem dX5_init_71 : decode cX5_init 71 = .ok (.dup, 1) := by decide +kernel
theorem dX5_init_72 : decode cX5_init 72 = .ok (.invokespecial 48, 3) := by decide +kernel
theorem dX5_init_75 : decode cX5_init 75 = .ok (.putfield 49, 3) := by decide +kernel
theorem dX5_init_78 : decode cX5_init 78 = .ok (.aload_n 0, 1) := by decide +kernel
theorem dX5_init_79 : decode cX5_init 79 = .ok (.new 53, 3) := by decide +kernel
theorem dX5_init_82 : decode cX5_init 82 = .ok (.dup, 1) := by decide +kernel
theorem dX5_init_83 : decode cX5_init 83 = .ok (.invokespecial 55, 3) := by decide +kernel
theorem dX5_init_86 : decode cX5_init 86 = .ok (.putfield 56, 3) := by decide +kernel
theorem dX5_init_89 : decode cX5_init 89 = .ok (.return_, 1) := by decide +kernel
set_option maxRecDepth 20000 in
theorem ggX5_firstForce_X0_init : GoodIn wsX5_firstForce wsX0_init := goodIn_r _ [8, 9, 10, 11, 12, 13, 14, 15, 16, 17, 18, 19, 20, 148, 149, 150, 151, 152, 153, 154, 155, 156, 157, 158] (by decide +kernel) (by decide +kernel)
set_option maxRecDepth 20000 in
theorem gX5_firstForce_X0_init_n30 : GoodIn wsX5_firstForce (wsX0_init) := ggX5_firstForce_X0_init
set_option maxRecDepth 20000 in
theorem ggX5_firstForce_J0_toCharArray_70df3 : GoodIn wsX5_firstForce wsJ0_toCharArray_70df3 := goodIn_r _ [25, 26, 27, 28, 29, 24, 30, 31, 32, 33, 34, 35, 36, 37, 38, 39, 40, 41, 42, 43, 44, 45, 46, 47, 48, 49, 50, 51, 52, 53, 54, 55, 56, 57, 58, 59, 60, 61, 62, 63, 64, 65, 66, 67] (by decide +kernel) (by decide +kernel)
set_option maxRecDepth 20000 in
theorem gX5_firstForce_J0_toCharArray_70df3 : GoodIn wsX5_firstForce (wsV RX5 62 RJ0 yJ0_toCharArray_70df3 wsJ0_toCharArray_70df3) := goodIn_app (goodIn_of _ (by decide +kernel)) ggX5_firstForce_J0_toCharArray_70df3
set_option maxRecDepth 20000 in
theorem ggX5_firstForce_X3_init : GoodIn wsX5_firstForce wsX3_init := goodIn_r _ [69, 70, 10, 11, 13, 71, 159] (by decide +kernel) (by decide +kernel)
set_option maxRecDepth 20000 in
theorem gX5_firstForce_X3_init_n15 : GoodIn wsX5_firstForce (wsX3_init) := ggX5_firstForce_X3_init
set_option maxRecDepth 20000 in
theorem ggX5_firstForce_X3_read : GoodIn wsX5_firstForce wsX3_read := goodIn_r _ [75, 76, 77, 78, 3, 79, 80, 81, 82, 83, 12, 84, 85, 6, 86, 87, 88, 89, 90, 91, 92, 93, 71, 94, 95, 96, 97, 98, 99, 100, 101, 102, 103, 104, 105, 106, 107, 108, 109, 110, 111, 18, 112, 113, 114, 115, 116, 117, 118, 119, 120, 121, 122, 123, 124, 125, 20, 126, 127, 128, 129, 130, 131, 132, 133, 134, 135, 136, 137, 138, 139, 140, 14, 15, 16, 17, 141, 142, 143, 144, 145, 146, 147, 148, 149, 150, 151, 152, 153, 154, 155, 156, 157, 158, 159] (by decide +kernel) (by decide +kernel)
set_option maxRecDepth 20000 in
theorem gX5_firstForce_X3_read : GoodIn wsX5_firstForce (wsV RX5 68 RX3 yX3_read wsX3_read) := goodIn_app (goodIn_of _ (by decide +kernel)) ggX5_firstForce_X3_read
theorem dX5_firstForce_0 : decode cX5_firstForce 0 = .ok (.new 28, 3) := by decide +kernel
theorem dX5_firstForce_3 : decode cX5_firstForce 3 = .ok (.dup, 1) := by decide +kernel
theorem dX5_firstForce_4 : decode cX5_firstForce 4 = .ok (.invokespecial 30, 3) := by decide +kernel
theorem dX5_firstForce_7 : decode cX5_firstForce 7 = .ok (.astore_n 0, 1) := by decide +kernel
theorem dX5_firstForce_8 : decode cX5_firstForce 8 = .ok (.ldc 60, 2) := by decide +kernel
theorem dX5_firstForce_10 : decode cX5_firstForce 10 = .ok (.invokevirtual 62, 3) := by decide +kernel
theorem dX5_firstForce_13 : decode cX5_firstForce 13 = .ok (.astore_n 1, 1) := by decide +kernel
theorem dX5_firstForce_14 : decode cX5_firstForce 14 = .ok (.new 13, 3) := by decide +kernel
theorem dX5_firstForce_17 : decode cX5_firstForce 17 = .ok (.dup, 1) := by decide +kernel
theorem dX5_firstForce_18 : decode cX5_firstForce 18 = .ok (.invokespecial 15, 3) := by decide +kernel
theorem dX5_firstForce_21 : decode cX5_firstForce 21 = .ok (.aload_n 1, 1) := by decide +kernel
theorem dX5_firstForce_22 : decode cX5_firstForce 22 = .ok (.aload_n 1, 1) := by decide +kernel
theorem dX5_firstForce_23 : decode cX5_firstForce 23 = .ok (.arraylength, 1) := by decide +kernel
theorem dX5_firstForce_24 : decode cX5_firstForce 24 = .ok (.aload_n 0, 1) := by decide +kernel
theorem dX5_firstForce_25 : decode cX5_firstForce 25 = .ok (.invokevirtual 68, 3) := by decide +kernel
theorem dX5_firstForce_28 : decode cX5_firstForce 28 = .ok (.pop, 1) := by decide +kernel
theorem dX5_firstForce_29 : decode cX5_firstForce 29 = .ok (.aload_n 0, 1) := by decide +kernel
theorem dX5_firstForce_30 : decode cX5_firstForce 30 = .ok (.areturn, 1) := by decide +kernel
set_option maxRecDepth 20000 in
theorem ggX5_write_X5_isWithin : GoodIn wsX5_write wsX5_isWithin := goodIn_r _ [6] (by decide +kernel) (by decide +kernel)
set_option maxRecDepth 20000 in
theorem gX5_write_X5_isWithin : GoodIn wsX5_write (va_wsS RX5 72 yX5_isWithin wsX5_isWithin) := goodIn_app (goodIn_of _ (by decide +kernel)) ggX5_write_X5_isWithin
theorem dX5_write_0 : decode cX5_write 0 = .ok (.iload_n 1, 1) := by decide +kernel
theorem dX5_write_1 : decode cX5_write 1 = .ok (.bipush 32, 2) := by decide +kernel
theorem dX5_write_3 : decode cX5_write 3 = .ok (.bipush 126, 2) := by decide +kernel
theorem dX5_write_5 : decode cX5_write 5 = .ok (.invokestatic 72, 3) := by decide +kernel
theorem dX5_write_8 : decode cX5_write 8 = .ok (.ifCond .ne 5, 3) := by decide +kernel
theorem dX5_write_11 : decode cX5_write 11 = .ok (.iconst (-1), 1) := by decide +kernel
theorem dX5_write_12 : decode cX5_write 12 = .ok (.ireturn, 1) := by decide +kernel
theorem dX5_write_13 : decode cX5_write 13 = .ok (.aload_n 0, 1) := by decide +kernel
theorem dX5_write_14 : decode cX5_write 14 = .ok (.getfield 76, 3) := by decide +kernel
theorem dX5_write_17 : decode cX5_write 17 = .ok (.sipush 200, 3) := by decide +kernel
theorem dX5_write_20 : decode cX5_write 20 = .ok (.if_icmp .lt 6, 3) := by decide +kernel
theorem dX5_write_23 : decode cX5_write 23 = .ok (.bipush (-3), 2) := by decide +kernel
theorem dX5_write_25 : decode cX5_write 25 = .ok (.ireturn, 1) := by decide +kernel
theorem dX5_write_26 : decode cX5_write 26 = .ok (.aload_n 0, 1) := by decide +kernel
theorem dX5_write_27 : decode cX5_write 27 = .ok (.getfield 9, 3) := by decide +kernel
theorem dX5_write_30 : decode cX5_write 30 = .ok (.aload_n 0, 1) := by decide +kernel
theorem dX5_write_31 : decode cX5_write 31 = .ok (.getfield 76, 3) := by decide +kernel
theorem dX5_write_34 : decode cX5_write 34 = .ok (.iload_n 1, 1) := by decide +kernel
theorem dX5_write_35 : decode cX5_write 35 = .ok (.i2c, 1) := by decide +kernel
theorem dX5_write_36 : decode cX5_write 36 = .ok (.castore, 1) := by decide +kernel
theorem dX5_write_37 : decode cX5_write 37 = .ok (.aload_n 0, 1) := by decide +kernel
theorem dX5_write_38 : decode cX5_write 38 = .ok (.dup, 1) := by decide +kernel
theorem dX5_write_39 : decode cX5_write 39 = .ok (.getfield 76, 3) := by decide +kernel
theorem dX5_write_42 : decode cX5_write 42 = .ok (.iconst 1, 1) := by decide +kernel
theorem dX5_write_43 : decode cX5_write 43 = .ok (.iadd, 1) := by decide +kernel
theorem dX5_write_44 : decode cX5_write 44 = .ok (.putfield 76, 3) := by decide +kernel
theorem dX5_write_47 : decode cX5_write 47 = .ok (.aload_n 0, 1) := by decide +kernel
theorem dX5_write_48 : decode cX5_write 48 = .ok (.getfield 76, 3) := by decide +kernel
theorem dX5_write_51 : decode cX5_write 51 = .ok (.ireturn, 1) := by decide +kernel
theorem dX5_wipe_0 : decode cX5_wipe 0 = .ok (.aload_n 0, 1) := by decide +kernel
theorem dX5_wipe_1 : decode cX5_wipe 1 = .ok (.getfield 76, 3) := by decide +kernel
theorem dX5_wipe_4 : decode cX5_wipe 4 = .ok (.istore_n 1, 1) := by decide +kernel
theorem dX5_wipe_5 : decode cX5_wipe 5 = .ok (.aload_n 0, 1) := by decide +kernel
theorem dX5_wipe_6 : decode cX5_wipe 6 = .ok (.iconst 0, 1) := by decide +kernel
theorem dX5_wipe_7 : decode cX5_wipe 7 = .ok (.putfield 76, 3) := by decide +kernel
theorem dX5_wipe_10 : decode cX5_wipe 10 = .ok (.iload_n 1, 1) := by decide +kernel
theorem dX5_wipe_11 : decode cX5_wipe 11 = .ok (.ireturn, 1) := by decide +kernel
set_option maxRecDepth 20000 in
theorem ggX5_fault_X3_read : GoodIn wsX5_fault wsX3_read := goodIn_r _ [9, 10, 11, 12, 13, 14, 15, 16, 17, 18, 19, 20, 21, 8, 22, 23, 24, 25, 26, 27, 28, 29, 30, 31, 32, 33, 34, 35, 36, 37, 38, 39, 40, 41, 42, 43, 44, 45, 46, 47, 48, 49, 50, 51, 52, 53, 54, 55, 56, 57, 58, 59, 60, 61, 62, 63, 64, 65, 66, 67, 68, 69, 70, 71, 72, 73, 74, 75, 76, 77, 78, 79, 80, 81, 82, 83, 84, 85, 86, 87, 88, 89, 90, 100, 101, 102, 103, 104, 105, 106, 107, 108, 109, 110, 111] (by decide +kernel) (by decide +kernel)
set_option maxRecDepth 20000 in
theorem gX5_fault_X3_read : GoodIn wsX5_fault (wsV RX5 68 RX3 yX3_read wsX3_read) := goodIn_app (goodIn_of _ (by decide +kernel)) ggX5_fault_X3_read
theorem dX5_fault_0 : decode cX5_fault 0 = .ok (.aload_n 0, 1) := by decide +kernel
theorem dX5_fault_1 : decode cX5_fault 1 = .ok (.getfield 16, 3) := by decide +kernel
theorem dX5_fault_4 : decode cX5_fault 4 = .ok (.aload_n 0, 1) := by decide +kernel
theorem dX5_fault_5 : decode cX5_fault 5 = .ok (.getfield 9, 3) := by decide +kernel
theorem dX5_fault_8 : decode cX5_fault 8 = .ok (.aload_n 0, 1) := by decide +kernel
theorem dX5_fault_9 : decode cX5_fault 9 = .ok (.getfield 76, 3) := by decide +kernel
theorem dX5_fault_12 : decode cX5_fault 12 = .ok (.aload_n 0, 1) := by decide +kernel
theorem dX5_fault_13 : decode cX5_fault 13 = .ok (.getfield 31, 3) := by decide +kernel
theorem dX5_fault_16 : decode cX5_fault 16 = .ok (.invokevirtual 68, 3) := by decide +kernel
theorem dX5_fault_19 : decode cX5_fault 19 = .ok (.ireturn, 1) := by decide +kernel
set_option maxRecDepth 20000 in
theorem ggX5_lay_X3_read : GoodIn wsX5_lay wsX3_read := goodIn_r _ [14, 15, 16, 17, 18, 19, 20, 21, 22, 23, 24, 25, 26, 13, 27, 28, 29, 30, 31, 32, 33, 34, 35, 36, 37, 38, 39, 40, 41, 42, 43, 44, 45, 46, 47, 48, 49, 50, 51, 52, 53, 54, 55, 56, 57, 58, 59, 60, 61, 62, 63, 64, 65, 66, 67, 68, 69, 70, 71, 72, 73, 74, 75, 76, 77, 78, 79, 80, 81, 82, 83, 84, 85, 86, 87, 88, 89, 90, 91, 92, 93, 94, 95, 121, 122, 123, 124, 125, 126, 127, 128, 129, 130, 131, 132] (by decide +kernel) (by decide +kernel)
set_option maxRecDepth 20000 in
theorem gX5_lay_X3_read : GoodIn wsX5_lay (wsV RX5 68 RX3 yX3_read wsX3_read) := goodIn_app (goodIn_of _ (by decide +kernel)) ggX5_lay_X3_read
set_option maxRecDepth 20000 in
theorem ggX5_lay_X0_copy : GoodIn wsX5_lay wsX0_copy := goodIn_r _ [99, 20, 21, 22, 23, 24, 85, 86, 87, 88, 54, 69, 121, 122, 123, 124, 125, 126, 127, 128, 129, 130, 131] (by decide +kernel) (by decide +kernel)
set_option maxRecDepth 20000 in
theorem gX5_lay_X0_copy : GoodIn wsX5_lay (wsV RX5 83 RX0 yX0_copy wsX0_copy) := goodIn_app (goodIn_of _ (by decide +kernel)) ggX5_lay_X0_copy
set_option maxRecDepth 20000 in
theorem ggX5_lay_X2_clear : GoodIn wsX5_lay wsX2_clear := goodIn_r _ [104, 105, 133, 134] (by decide +kernel) (by decide +kernel)
set_option maxRecDepth 20000 in
theorem gX5_lay_X2_clear : GoodIn wsX5_lay (wsV RX5 87 RX2 yX2_clear wsX2_clear) := goodIn_app (goodIn_of _ (by decide +kernel)) ggX5_lay_X2_clear
set_option maxRecDepth 20000 in
theorem ggX5_lay_X4_clear : GoodIn wsX5_lay wsX4_clear := goodIn_r _ [110, 111, 135, 136, 137] (by decide +kernel) (by decide +kernel)
set_option maxRecDepth 20000 in
theorem gX5_lay_X4_clear : GoodIn wsX5_lay (wsV RX5 90 RX4 yX4_clear wsX4_clear) := goodIn_app (goodIn_of _ (by decide +kernel)) ggX5_lay_X4_clear
theorem dX5_lay_0 : decode cX5_lay 0 = .ok (.aload_n 0, 1) := by decide +kernel
theorem dX5_lay_1 : decode cX5_lay 1 = .ok (.getfield 16, 3) := by decide +kernel
theorem dX5_lay_4 : decode cX5_lay 4 = .ok (.aload_n 0, 1) := by decide +kernel
theorem dX5_lay_5 : decode cX5_lay 5 = .ok (.getfield 9, 3) := by decide +kernel
theorem dX5_lay_8 : decode cX5_lay 8 = .ok (.aload_n 0, 1) := by decide +kernel
theorem dX5_lay_9 : decode cX5_lay 9 = .ok (.getfield 76, 3) := by decide +kernel
theorem dX5_lay_12 : decode cX5_lay 12 = .ok (.aload_n 0, 1) := by decide +kernel
theorem dX5_lay_13 : decode cX5_lay 13 = .ok (.getfield 31, 3) := by decide +kernel
theorem dX5_lay_16 : decode cX5_lay 16 = .ok (.invokevirtual 68, 3) := by decide +kernel
theorem dX5_lay_19 : decode cX5_lay 19 = .ok (.bipush (-4), 2) := by decide +kernel
theorem dX5_lay_21 : decode cX5_lay 21 = .ok (.if_icmp .ne 13, 3) := by decide +kernel
theorem dX5_lay_24 : decode cX5_lay 24 = .ok (.aload_n 0, 1) := by decide +kernel
theorem dX5_lay_25 : decode cX5_lay 25 = .ok (.getfield 31, 3) := by decide +kernel
theorem dX5_lay_28 : decode cX5_lay 28 = .ok (.getfield 80, 3) := by decide +kernel
theorem dX5_lay_31 : decode cX5_lay 31 = .ok (.ifCond .ne 6, 3) := by decide +kernel
theorem dX5_lay_34 : decode cX5_lay 34 = .ok (.bipush (-2), 2) := by decide +kernel
theorem dX5_lay_36 : decode cX5_lay 36 = .ok (.ireturn, 1) := by decide +kernel
theorem dX5_lay_37 : decode cX5_lay 37 = .ok (.aload_n 0, 1) := by decide +kernel
theorem dX5_lay_38 : decode cX5_lay 38 = .ok (.getfield 24, 3) := by decide +kernel
theorem dX5_lay_41 : decode cX5_lay 41 = .ok (.aload_n 0, 1) := by decide +kernel
theorem dX5_lay_42 : decode cX5_lay 42 = .ok (.getfield 31, 3) := by decide +kernel
theorem dX5_lay_45 : decode cX5_lay 45 = .ok (.invokevirtual 83, 3) := by decide +kernel
theorem dX5_lay_48 : decode cX5_lay 48 = .ok (.aload_n 0, 1) := by decide +kernel
theorem dX5_lay_49 : decode cX5_lay 49 = .ok (.getfield 39, 3) := by decide +kernel
theorem dX5_lay_52 : decode cX5_lay 52 = .ok (.invokevirtual 87, 3) := by decide +kernel
theorem dX5_lay_55 : decode cX5_lay 55 = .ok (.aload_n 0, 1) := by decide +kernel
theorem dX5_lay_56 : decode cX5_lay 56 = .ok (.getfield 43, 3) := by decide +kernel
theorem dX5_lay_59 : decode cX5_lay 59 = .ok (.invokevirtual 87, 3) := by decide +kernel
theorem dX5_lay_62 : decode cX5_lay 62 = .ok (.aload_n 0, 1) := by decide +kernel
theorem dX5_lay_63 : decode cX5_lay 63 = .ok (.getfield 49, 3) := by decide +kernel
theorem dX5_lay_66 : decode cX5_lay 66 = .ok (.invokevirtual 90, 3) := by decide +kernel
theorem dX5_lay_69 : decode cX5_lay 69 = .ok (.aload_n 0, 1) := by decide +kernel
theorem dX5_lay_70 : decode cX5_lay 70 = .ok (.getfield 24, 3) := by decide +kernel
theorem dX5_lay_73 : decode cX5_lay 73 = .ok (.getfield 80, 3) := by decide +kernel
theorem dX5_lay_76 : decode cX5_lay 76 = .ok (.ireturn, 1) := by decide +kernel
set_option maxRecDepth 20000 in
theorem ggX5_saying_X0_isThere : GoodIn wsX5_saying wsX0_isThere := goodIn_r _ [12, 13, 46, 47, 48, 49, 50, 51, 52, 53, 54, 55, 56] (by decide +kernel) (by decide +kernel)
set_option maxRecDepth 20000 in
theorem gX5_saying_X0_isThere : GoodIn wsX5_saying (wsV RX5 91 RX0 yX0_isThere wsX0_isThere) := goodIn_app (goodIn_of _ (by decide +kernel)) ggX5_saying_X0_isThere
set_option maxRecDepth 20000 in
theorem ggX5_saying_X0_isSoIn : GoodIn wsX5_saying wsX0_isSoIn := goodIn_r _ [17, 18, 19, 9, 10, 11, 12, 13, 20, 21, 22, 46, 47, 48, 49, 50, 51, 52, 53, 54, 55, 56] (by decide +kernel) (by decide +kernel)
set_option maxRecDepth 20000 in
theorem gX5_saying_X0_isSoIn : GoodIn wsX5_saying (wsV RX5 111 RX0 yX0_isSoIn wsX0_isSoIn) := goodIn_app (goodIn_of _ (by decide +kernel)) ggX5_saying_X0_isSoIn
set_option maxRecDepth 20000 in
theorem ggX5_saying_X5_asNumber : GoodIn wsX5_saying wsX5_asNumber := goodIn_r _ [25] (by decide +kernel) (by decide +kernel)
set_option maxRecDepth 20000 in
theorem gX5_saying_X5_asNumber : GoodIn wsX5_saying (va_wsS RX5 115 yX5_asNumber wsX5_asNumber) := goodIn_app (goodIn_of _ (by decide +kernel)) ggX5_saying_X5_asNumber
set_option maxRecDepth 20000 in
theorem ggX5_saying_X0_isWithdrawn : GoodIn wsX5_saying wsX0_isWithdrawn := goodIn_r _ [29, 30, 46, 47, 48, 49, 50, 51, 52, 53, 54, 55, 56] (by decide +kernel) (by decide +kernel)
set_option maxRecDepth 20000 in
theorem gX5_saying_X0_isWithdrawn : GoodIn wsX5_saying (wsV RX5 119 RX0 yX0_isWithdrawn wsX0_isWithdrawn) := goodIn_app (goodIn_of _ (by decide +kernel)) ggX5_saying_X0_isWithdrawn
set_option maxRecDepth 20000 in
theorem ggX5_saying_X0_hasPoliceman : GoodIn wsX5_saying wsX0_hasPoliceman := goodIn_r _ [34, 18, 35, 19, 9, 10, 11, 12, 13, 36, 27, 28, 29, 30, 20, 21, 22, 46, 47, 48, 49, 50, 51, 52, 53, 54, 55, 56] (by decide +kernel) (by decide +kernel)
set_option maxRecDepth 20000 in
theorem gX5_saying_X0_hasPoliceman : GoodIn wsX5_saying (wsV RX5 122 RX0 yX0_hasPoliceman wsX0_hasPoliceman) := goodIn_app (goodIn_of _ (by decide +kernel)) ggX5_saying_X0_hasPoliceman
theorem dX5_saying_0 : decode cX5_saying 0 = .ok (.aload_n 0, 1) := by decide +kernel
theorem dX5_saying_1 : decode cX5_saying 1 = .ok (.getfield 24, 3) := by decide +kernel
theorem dX5_saying_4 : decode cX5_saying 4 = .ok (.iload_n 1, 1) := by decide +kernel
theorem dX5_saying_5 : decode cX5_saying 5 = .ok (.invokevirtual 91, 3) := by decide +kernel
theorem dX5_saying_8 : decode cX5_saying 8 = .ok (.ifCond .ne 5, 3) := by decide +kernel
theorem dX5_saying_11 : decode cX5_saying 11 = .ok (.iconst (-1), 1) := by decide +kernel
theorem dX5_saying_12 : decode cX5_saying 12 = .ok (.ireturn, 1) := by decide +kernel
theorem dX5_saying_13 : decode cX5_saying 13 = .ok (.iload_n 2, 1) := by decide +kernel
theorem dX5_saying_14 : decode cX5_saying 14 = .ok (.tableswitch 156 0 6 #[42, 52, 62, 89, 99, 118, 130], 42) := by decide +kernel
theorem dX5_saying_56 : decode cX5_saying 56 = .ok (.aload_n 0, 1) := by decide +kernel
theorem dX5_saying_57 : decode cX5_saying 57 = .ok (.getfield 24, 3) := by decide +kernel
theorem dX5_saying_60 : decode cX5_saying 60 = .ok (.getfield 95, 3) := by decide +kernel
theorem dX5_saying_63 : decode cX5_saying 63 = .ok (.iload_n 1, 1) := by decide +kernel
theorem dX5_saying_64 : decode cX5_saying 64 = .ok (.iaload, 1) := by decide +kernel
theorem dX5_saying_65 : decode cX5_saying 65 = .ok (.ireturn, 1) := by decide +kernel
theorem dX5_saying_66 : decode cX5_saying 66 = .ok (.aload_n 0, 1) := by decide +kernel
theorem dX5_saying_67 : decode cX5_saying 67 = .ok (.getfield 24, 3) := by decide +kernel
theorem dX5_saying_70 : decode cX5_saying 70 = .ok (.getfield 99, 3) := by decide +kernel
theorem dX5_saying_73 : decode cX5_saying 73 = .ok (.iload_n 1, 1) := by decide +kernel
theorem dX5_saying_74 : decode cX5_saying 74 = .ok (.iaload, 1) := by decide +kernel
theorem dX5_saying_75 : decode cX5_saying 75 = .ok (.ireturn, 1) := by decide +kernel
theorem dX5_saying_76 : decode cX5_saying 76 = .ok (.aload_n 0, 1) := by decide +kernel
theorem dX5_saying_77 : decode cX5_saying 77 = .ok (.getfield 24, 3) := by decide +kernel
theorem dX5_saying_80 : decode cX5_saying 80 = .ok (.getfield 95, 3) := by decide +kernel
theorem dX5_saying_83 : decode cX5_saying 83 = .ok (.iload_n 1, 1) := by decide +kernel
theorem dX5_saying_84 : decode cX5_saying 84 = .ok (.iaload, 1) := by decide +kernel
theorem dX5_saying_85 : decode cX5_saying 85 = .ok (.ifCond .ne 8, 3) := by decide +kernel
theorem dX5_saying_88 : decode cX5_saying 88 = .ok (.bipush (-4), 2) := by decide +kernel
theorem dX5_saying_90 : decode cX5_saying 90 = .ok (.goto 12, 3) := by decide +kernel
theorem dX5_saying_93 : decode cX5_saying 93 = .ok (.aload_n 0, 1) := by decide +kernel
theorem dX5_saying_94 : decode cX5_saying 94 = .ok (.getfield 24, 3) := by decide +kernel
theorem dX5_saying_97 : decode cX5_saying 97 = .ok (.getfield 102, 3) := by decide +kernel
theorem dX5_saying_100 : decode cX5_saying 100 = .ok (.iload_n 1, 1) := by decide +kernel
theorem dX5_saying_101 : decode cX5_saying 101 = .ok (.iaload, 1) := by decide +kernel
theorem dX5_saying_102 : decode cX5_saying 102 = .ok (.ireturn, 1) := by decide +kernel
theorem dX5_saying_103 : decode cX5_saying 103 = .ok (.aload_n 0, 1) := by decide +kernel
theorem dX5_saying_104 : decode cX5_saying 104 = .ok (.getfield 24, 3) := by decide +kernel
theorem dX5_saying_107 : decode cX5_saying 107 = .ok (.getfield 105, 3) := by decide +kernel
theorem dX5_saying_110 : decode cX5_saying 110 = .ok (.iload_n 1, 1) := by decide +kernel
theorem dX5_saying_111 : decode cX5_saying 111 = .ok (.iaload, 1) := by decide +kernel
theorem dX5_saying_112 : decode cX5_saying 112 = .ok (.ireturn, 1) := by decide +kernel
theorem dX5_saying_113 : decode cX5_saying 113 = .ok (.aload_n 0, 1) := by decide +kernel
theorem dX5_saying_114 : decode cX5_saying 114 = .ok (.getfield 24, 3) := by decide +kernel
theorem dX5_saying_117 : decode cX5_saying 117 = .ok (.iload_n 1, 1) := by decide +kernel
theorem dX5_saying_118 : decode cX5_saying 118 = .ok (.aload_n 0, 1) := by decide +kernel
theorem dX5_saying_119 : decode cX5_saying 119 = .ok (.getfield 24, 3) := by decide +kernel
theorem dX5_saying_122 : decode cX5_saying 122 = .ok (.getfield 108, 3) := by decide +kernel
theorem dX5_saying_125 : decode cX5_saying 125 = .ok (.invokevirtual 111, 3) := by decide +kernel
theorem dX5_saying_128 : decode cX5_saying 128 = .ok (.invokestatic 115, 3) := by decide +kernel
theorem dX5_saying_131 : decode cX5_saying 131 = .ok (.ireturn, 1) := by decide +kernel
theorem dX5_saying_132 : decode cX5_saying 132 = .ok (.aload_n 0, 1) := by decide +kernel
theorem dX5_saying_133 : decode cX5_saying 133 = .ok (.getfield 24, 3) := by decide +kernel
theorem dX5_saying_136 : decode cX5_saying 136 = .ok (.iload_n 1, 1) := by decide +kernel
theorem dX5_saying_137 : decode cX5_saying 137 = .ok (.invokevirtual 119, 3) := by decide +kernel
theorem dX5_saying_140 : decode cX5_saying 140 = .ok (.invokestatic 115, 3) := by decide +kernel
theorem dX5_saying_143 : decode cX5_saying 143 = .ok (.ireturn, 1) := by decide +kernel
theorem dX5_saying_144 : decode cX5_saying 144 = .ok (.aload_n 0, 1) := by decide +kernel
theorem dX5_saying_145 : decode cX5_saying 145 = .ok (.getfield 24, 3) := by decide +kernel
theorem dX5_saying_148 : decode cX5_saying 148 = .ok (.iload_n 1, 1) := by decide +kernel
theorem dX5_saying_149 : decode cX5_saying 149 = .ok (.invokevirtual 122, 3) := by decide +kernel
theorem dX5_saying_152 : decode cX5_saying 152 = .ok (.ifCond .eq 15, 3) := by decide +kernel
theorem dX5_saying_155 : decode cX5_saying 155 = .ok (.aload_n 0, 1) := by decide +kernel
theorem dX5_saying_156 : decode cX5_saying 156 = .ok (.getfield 24, 3) := by decide +kernel
theorem dX5_saying_159 : decode cX5_saying 159 = .ok (.getfield 125, 3) := by decide +kernel
theorem dX5_saying_162 : decode cX5_saying 162 = .ok (.iload_n 1, 1) := by decide +kernel
theorem dX5_saying_163 : decode cX5_saying 163 = .ok (.iaload, 1) := by decide +kernel
theorem dX5_saying_164 : decode cX5_saying 164 = .ok (.goto 5, 3) := by decide +kernel
theorem dX5_saying_167 : decode cX5_saying 167 = .ok (.bipush (-4), 2) := by decide +kernel
theorem dX5_saying_169 : decode cX5_saying 169 = .ok (.ireturn, 1) := by decide +kernel
theorem dX5_saying_170 : decode cX5_saying 170 = .ok (.iconst (-1), 1) := by decide +kernel
theorem dX5_saying_171 : decode cX5_saying 171 = .ok (.ireturn, 1) := by decide +kernel
set_option maxRecDepth 20000 in
theorem ggX5_fact_X5_isFact : GoodIn wsX5_fact wsX5_isFact := goodIn_r _ [6, 7, 8, 5, 9] (by decide +kernel) (by decide +kernel)
set_option maxRecDepth 20000 in
theorem gX5_fact_X5_isFact : GoodIn wsX5_fact (va_wsS RX5 128 yX5_isFact wsX5_isFact) := goodIn_app (goodIn_of _ (by decide +kernel)) ggX5_fact_X5_isFact
theorem dX5_fact_0 : decode cX5_fact 0 = .ok (.iload_n 1, 1) := by decide +kernel
theorem dX5_fact_1 : decode cX5_fact 1 = .ok (.invokestatic 128, 3) := by decide +kernel
theorem dX5_fact_4 : decode cX5_fact 4 = .ok (.ifCond .ne 5, 3) := by decide +kernel
theorem dX5_fact_7 : decode cX5_fact 7 = .ok (.iconst (-1), 1) := by decide +kernel
theorem dX5_fact_8 : decode cX5_fact 8 = .ok (.ireturn, 1) := by decide +kernel
theorem dX5_fact_9 : decode cX5_fact 9 = .ok (.aload_n 0, 1) := by decide +kernel
theorem dX5_fact_10 : decode cX5_fact 10 = .ok (.getfield 24, 3) := by decide +kernel
theorem dX5_fact_13 : decode cX5_fact 13 = .ok (.getfield 108, 3) := by decide +kernel
theorem dX5_fact_16 : decode cX5_fact 16 = .ok (.iload_n 1, 1) := by decide +kernel
theorem dX5_fact_17 : decode cX5_fact 17 = .ok (.ishr, 1) := by decide +kernel
theorem dX5_fact_18 : decode cX5_fact 18 = .ok (.iconst 1, 1) := by decide +kernel
theorem dX5_fact_19 : decode cX5_fact 19 = .ok (.iand, 1) := by decide +kernel
theorem dX5_fact_20 : decode cX5_fact 20 = .ok (.ireturn, 1) := by decide +kernel
set_option maxRecDepth 20000 in
theorem ggX5_clash_X0_isThere : GoodIn wsX5_clash wsX0_isThere := goodIn_r _ [6, 7, 27, 28, 29, 30, 31, 32, 33, 34, 35, 36, 37] (by decide +kernel) (by decide +kernel)
set_option maxRecDepth 20000 in
theorem gX5_clash_X0_isThere : GoodIn wsX5_clash (wsV RX5 91 RX0 yX0_isThere wsX0_isThere) := goodIn_app (goodIn_of _ (by decide +kernel)) ggX5_clash_X0_isThere
set_option maxRecDepth 20000 in
theorem ggX5_clash_X0_areClashing : GoodIn wsX5_clash wsX0_areClashing := goodIn_r _ [11, 12, 13, 3, 4, 5, 6, 7, 27, 28, 29, 30, 31, 32, 33, 34, 35, 36, 37] (by decide +kernel) (by decide +kernel)
set_option maxRecDepth 20000 in
theorem gX5_clash_X0_areClashing : GoodIn wsX5_clash (wsV RX5 131 RX0 yX0_areClashing wsX0_areClashing) := goodIn_app (goodIn_of _ (by decide +kernel)) ggX5_clash_X0_areClashing
set_option maxRecDepth 20000 in
theorem ggX5_clash_X5_asNumber : GoodIn wsX5_clash wsX5_asNumber := goodIn_r _ [17] (by decide +kernel) (by decide +kernel)
set_option maxRecDepth 20000 in
theorem gX5_clash_X5_asNumber : GoodIn wsX5_clash (va_wsS RX5 115 yX5_asNumber wsX5_asNumber) := goodIn_app (goodIn_of _ (by decide +kernel)) ggX5_clash_X5_asNumber
theorem dX5_clash_0 : decode cX5_clash 0 = .ok (.aload_n 0, 1) := by decide +kernel
theorem dX5_clash_1 : decode cX5_clash 1 = .ok (.getfield 24, 3) := by decide +kernel
theorem dX5_clash_4 : decode cX5_clash 4 = .ok (.iload_n 1, 1) := by decide +kernel
theorem dX5_clash_5 : decode cX5_clash 5 = .ok (.invokevirtual 91, 3) := by decide +kernel
theorem dX5_clash_8 : decode cX5_clash 8 = .ok (.ifCond .eq 19, 3) := by decide +kernel
theorem dX5_clash_11 : decode cX5_clash 11 = .ok (.aload_n 0, 1) := by decide +kernel
theorem dX5_clash_12 : decode cX5_clash 12 = .ok (.getfield 24, 3) := by decide +kernel
theorem dX5_clash_15 : decode cX5_clash 15 = .ok (.iload_n 2, 1) := by decide +kernel
theorem dX5_clash_16 : decode cX5_clash 16 = .ok (.invokevirtual 91, 3) := by decide +kernel
theorem dX5_clash_19 : decode cX5_clash 19 = .ok (.ifCond .eq 8, 3) := by decide +kernel
theorem dX5_clash_22 : decode cX5_clash 22 = .ok (.iload_n 1, 1) := by decide +kernel
theorem dX5_clash_23 : decode cX5_clash 23 = .ok (.iload_n 2, 1) := by decide +kernel
theorem dX5_clash_24 : decode cX5_clash 24 = .ok (.if_icmp .ne 5, 3) := by decide +kernel
theorem dX5_clash_27 : decode cX5_clash 27 = .ok (.iconst (-1), 1) := by decide +kernel
theorem dX5_clash_28 : decode cX5_clash 28 = .ok (.ireturn, 1) := by decide +kernel
theorem dX5_clash_29 : decode cX5_clash 29 = .ok (.aload_n 0, 1) := by decide +kernel
theorem dX5_clash_30 : decode cX5_clash 30 = .ok (.getfield 24, 3) := by decide +kernel
theorem dX5_clash_33 : decode cX5_clash 33 = .ok (.iload_n 1, 1) := by decide +kernel
theorem dX5_clash_34 : decode cX5_clash 34 = .ok (.iload_n 2, 1) := by decide +kernel
theorem dX5_clash_35 : decode cX5_clash 35 = .ok (.invokevirtual 131, 3) := by decide +kernel
theorem dX5_clash_38 : decode cX5_clash 38 = .ok (.invokestatic 115, 3) := by decide +kernel
theorem dX5_clash_41 : decode cX5_clash 41 = .ok (.ireturn, 1) := by decide +kernel
set_option maxRecDepth 20000 in
theorem ggX5_pass_X5_isWithin : GoodIn wsX5_pass wsX5_isWithin := goodIn_r _ [7] (by decide +kernel) (by decide +kernel)
set_option maxRecDepth 20000 in
theorem gX5_pass_X5_isWithin : GoodIn wsX5_pass (va_wsS RX5 72 yX5_isWithin wsX5_isWithin) := goodIn_app (goodIn_of _ (by decide +kernel)) ggX5_pass_X5_isWithin
set_option maxRecDepth 20000 in
theorem ggX5_pass_X2_add : GoodIn wsX5_pass wsX2_add := goodIn_r _ [12, 13, 14, 15, 16, 17, 11, 18, 19, 20, 21, 22, 23, 24, 25, 26, 27, 28, 29, 30, 31, 32, 33, 34, 93, 94, 82, 83, 84, 85, 86, 87, 88, 89, 90, 91, 92] (by decide +kernel) (by decide +kernel)
set_option maxRecDepth 20000 in
theorem gX5_pass_X2_add : GoodIn wsX5_pass (wsV RX5 134 RX2 yX2_add wsX2_add) := goodIn_app (goodIn_of _ (by decide +kernel)) ggX5_pass_X2_add
set_option maxRecDepth 20000 in
theorem ggX5_pass_X0_passDay : GoodIn wsX5_pass wsX0_passDay := goodIn_r _ [38, 25, 39, 40, 41, 22, 42, 27, 33, 43, 44, 45, 46, 47, 48, 49, 50, 34, 24, 51, 52, 53, 54, 26, 55, 6, 56, 57, 58, 59, 60, 61, 62, 63, 64, 28, 65, 66, 67, 68, 69, 70, 71, 72, 82, 83, 84, 85, 86, 87, 88, 89, 90, 91, 92] (by decide +kernel) (by decide +kernel)
set_option maxRecDepth 20000 in
theorem gX5_pass_X0_passDay : GoodIn wsX5_pass (wsV RX5 137 RX0 yX0_passDay wsX0_passDay) := goodIn_app (goodIn_of _ (by decide +kernel)) ggX5_pass_X0_passDay
theorem dX5_pass_0 : decode cX5_pass 0 = .ok (.iload_n 1, 1) := by decide +kernel
theorem dX5_pass_1 : decode cX5_pass 1 = .ok (.iconst 1, 1) := by decide +kernel
theorem dX5_pass_2 : decode cX5_pass 2 = .ok (.bipush 30, 2) := by decide +kernel
theorem dX5_pass_4 : decode cX5_pass 4 = .ok (.invokestatic 72, 3) := by decide +kernel
theorem dX5_pass_7 : decode cX5_pass 7 = .ok (.ifCond .ne 5, 3) := by decide +kernel
theorem dX5_pass_10 : decode cX5_pass 10 = .ok (.iconst (-1), 1) := by decide +kernel
theorem dX5_pass_11 : decode cX5_pass 11 = .ok (.ireturn, 1) := by decide +kernel
theorem dX5_pass_12 : decode cX5_pass 12 = .ok (.aload_n 0, 1) := by decide +kernel
theorem dX5_pass_13 : decode cX5_pass 13 = .ok (.getfield 39, 3) := by decide +kernel
theorem dX5_pass_16 : decode cX5_pass 16 = .ok (.aload_n 0, 1) := by decide +kernel
theorem dX5_pass_17 : decode cX5_pass 17 = .ok (.getfield 24, 3) := by decide +kernel
theorem dX5_pass_20 : decode cX5_pass 20 = .ok (.invokevirtual 134, 3) := by decide +kernel
theorem dX5_pass_23 : decode cX5_pass 23 = .ok (.iconst 0, 1) := by decide +kernel
theorem dX5_pass_24 : decode cX5_pass 24 = .ok (.istore_n 2, 1) := by decide +kernel
theorem dX5_pass_25 : decode cX5_pass 25 = .ok (.iload_n 2, 1) := by decide +kernel
theorem dX5_pass_26 : decode cX5_pass 26 = .ok (.iload_n 1, 1) := by decide +kernel
theorem dX5_pass_27 : decode cX5_pass 27 = .ok (.if_icmp .ge 17, 3) := by decide +kernel
theorem dX5_pass_30 : decode cX5_pass 30 = .ok (.aload_n 0, 1) := by decide +kernel
theorem dX5_pass_31 : decode cX5_pass 31 = .ok (.getfield 24, 3) := by decide +kernel
theorem dX5_pass_34 : decode cX5_pass 34 = .ok (.invokevirtual 137, 3) := by decide +kernel
theorem dX5_pass_37 : decode cX5_pass 37 = .ok (.pop, 1) := by decide +kernel
theorem dX5_pass_38 : decode cX5_pass 38 = .ok (.iinc 2 1, 3) := by decide +kernel
theorem dX5_pass_41 : decode cX5_pass 41 = .ok (.goto (-16), 3) := by decide +kernel
theorem dX5_pass_44 : decode cX5_pass 44 = .ok (.aload_n 0, 1) := by decide +kernel
theorem dX5_pass_45 : decode cX5_pass 45 = .ok (.getfield 24, 3) := by decide +kernel
theorem dX5_pass_48 : decode cX5_pass 48 = .ok (.getfield 141, 3) := by decide +kernel
theorem dX5_pass_51 : decode cX5_pass 51 = .ok (.ireturn, 1) := by decide +kernel
set_option maxRecDepth 20000 in
theorem ggX5_say_X5_isSaying : GoodIn wsX5_say wsX5_isSaying := goodIn_r _ [7, 8, 9, 6, 10, 11, 12, 13] (by decide +kernel) (by decide +kernel)
set_option maxRecDepth 20000 in
theorem gX5_say_X5_isSaying : GoodIn wsX5_say (va_wsS RX5 144 yX5_isSaying wsX5_isSaying) := goodIn_app (goodIn_of _ (by decide +kernel)) ggX5_say_X5_isSaying
set_option maxRecDepth 20000 in
theorem ggX5_say_X2_add : GoodIn wsX5_say wsX2_add := goodIn_r _ [18, 19, 20, 21, 22, 23, 17, 24, 25, 26, 27, 28, 29, 30, 31, 32, 33, 34, 35, 36, 37, 38, 39, 40, 72, 73, 61, 62, 63, 64, 65, 66, 67, 68, 69, 70, 71] (by decide +kernel) (by decide +kernel)
set_option maxRecDepth 20000 in
theorem gX5_say_X2_add : GoodIn wsX5_say (wsV RX5 134 RX2 yX2_add wsX2_add) := goodIn_app (goodIn_of _ (by decide +kernel)) ggX5_say_X2_add
set_option maxRecDepth 20000 in
theorem ggX5_say_X0_addSaying : GoodIn wsX5_say wsX0_addSaying := goodIn_r _ [44, 31, 35, 36, 37, 38, 39, 40, 45, 6, 46, 47, 48, 49, 50, 51, 61, 62, 63, 64, 65, 66, 67, 68, 69, 70, 71] (by decide +kernel) (by decide +kernel)
set_option maxRecDepth 20000 in
theorem gX5_say_X0_addSaying : GoodIn wsX5_say (wsV RX5 148 RX0 yX0_addSaying wsX0_addSaying) := goodIn_app (goodIn_of _ (by decide +kernel)) ggX5_say_X0_addSaying
theorem dX5_say_0 : decode cX5_say 0 = .ok (.iload_n 1, 1) := by decide +kernel
theorem dX5_say_1 : decode cX5_say 1 = .ok (.ifCond .ne 7, 3) := by decide +kernel
theorem dX5_say_4 : decode cX5_say 4 = .ok (.iconst 0, 1) := by decide +kernel
theorem dX5_say_5 : decode cX5_say 5 = .ok (.goto 4, 3) := by decide +kernel
theorem dX5_say_8 : decode cX5_say 8 = .ok (.iload_n 3, 1) := by decide +kernel
theorem dX5_say_9 : decode cX5_say 9 = .ok (.istore 5, 2) := by decide +kernel
theorem dX5_say_11 : decode cX5_say 11 = .ok (.iload_n 1, 1) := by decide +kernel
theorem dX5_say_12 : decode cX5_say 12 = .ok (.iload_n 2, 1) := by decide +kernel
theorem dX5_say_13 : decode cX5_say 13 = .ok (.iload 5, 2) := by decide +kernel
theorem dX5_say_15 : decode cX5_say 15 = .ok (.iload 4, 2) := by decide +kernel
theorem dX5_say_17 : decode cX5_say 17 = .ok (.invokestatic 144, 3) := by decide +kernel
theorem dX5_say_20 : decode cX5_say 20 = .ok (.ifCond .ne 5, 3) := by decide +kernel
theorem dX5_say_23 : decode cX5_say 23 = .ok (.iconst (-1), 1) := by decide +kernel
theorem dX5_say_24 : decode cX5_say 24 = .ok (.ireturn, 1) := by decide +kernel
theorem dX5_say_25 : decode cX5_say 25 = .ok (.aload_n 0, 1) := by decide +kernel
theorem dX5_say_26 : decode cX5_say 26 = .ok (.getfield 24, 3) := by decide +kernel
theorem dX5_say_29 : decode cX5_say 29 = .ok (.getfield 80, 3) := by decide +kernel
theorem dX5_say_32 : decode cX5_say 32 = .ok (.bipush 9, 2) := by decide +kernel
theorem dX5_say_34 : decode cX5_say 34 = .ok (.if_icmp .lt 6, 3) := by decide +kernel
theorem dX5_say_37 : decode cX5_say 37 = .ok (.bipush (-3), 2) := by decide +kernel
theorem dX5_say_39 : decode cX5_say 39 = .ok (.ireturn, 1) := by decide +kernel
theorem dX5_say_40 : decode cX5_say 40 = .ok (.aload_n 0, 1) := by decide +kernel
theorem dX5_say_41 : decode cX5_say 41 = .ok (.getfield 39, 3) := by decide +kernel
theorem dX5_say_44 : decode cX5_say 44 = .ok (.aload_n 0, 1) := by decide +kernel
theorem dX5_say_45 : decode cX5_say 45 = .ok (.getfield 24, 3) := by decide +kernel
theorem dX5_say_48 : decode cX5_say 48 = .ok (.invokevirtual 134, 3) := by decide +kernel
theorem dX5_say_51 : decode cX5_say 51 = .ok (.aload_n 0, 1) := by decide +kernel
theorem dX5_say_52 : decode cX5_say 52 = .ok (.getfield 24, 3) := by decide +kernel
theorem dX5_say_55 : decode cX5_say 55 = .ok (.iload_n 1, 1) := by decide +kernel
theorem dX5_say_56 : decode cX5_say 56 = .ok (.iload_n 2, 1) := by decide +kernel
theorem dX5_say_57 : decode cX5_say 57 = .ok (.iload 5, 2) := by decide +kernel
theorem dX5_say_59 : decode cX5_say 59 = .ok (.iload 4, 2) := by decide +kernel
theorem dX5_say_61 : decode cX5_say 61 = .ok (.invokevirtual 148, 3) := by decide +kernel
theorem dX5_say_64 : decode cX5_say 64 = .ok (.ireturn, 1) := by decide +kernel
set_option maxRecDepth 20000 in
theorem ggX5_withdraw_X0_isThere : GoodIn wsX5_withdraw wsX0_isThere := goodIn_r _ [7, 8, 86, 87, 88, 89, 90, 91, 92, 93, 94, 95, 96] (by decide +kernel) (by decide +kernel)
set_option maxRecDepth 20000 in
theorem gX5_withdraw_X0_isThere : GoodIn wsX5_withdraw (wsV RX5 91 RX0 yX0_isThere wsX0_isThere) := goodIn_app (goodIn_of _ (by decide +kernel)) ggX5_withdraw_X0_isThere
set_option maxRecDepth 20000 in
theorem ggX5_withdraw_X0_canBeWithdrawn : GoodIn wsX5_withdraw wsX0_canBeWithdrawn := goodIn_r _ [12, 13, 4, 5, 6, 7, 8, 14, 15, 16, 17, 18, 19, 20, 21, 22, 23, 24, 25, 26, 27, 28, 29, 30, 31, 32, 33, 86, 87, 88, 89, 90, 91, 92, 93, 94, 95, 96] (by decide +kernel) (by decide +kernel)
set_option maxRecDepth 20000 in
theorem gX5_withdraw_X0_canBeWithdrawn : GoodIn wsX5_withdraw (wsV RX5 152 RX0 yX0_canBeWithdrawn wsX0_canBeWithdrawn) := goodIn_app (goodIn_of _ (by decide +kernel)) ggX5_withdraw_X0_canBeWithdrawn
set_option maxRecDepth 20000 in
theorem ggX5_withdraw_X2_add : GoodIn wsX5_withdraw wsX2_add := goodIn_r _ [38, 39, 40, 41, 42, 43, 37, 44, 45, 46, 47, 6, 48, 30, 8, 18, 49, 24, 50, 51, 52, 53, 23, 29, 97, 98, 86, 87, 88, 89, 90, 91, 92, 93, 94, 95, 96] (by decide +kernel) (by decide +kernel)
set_option maxRecDepth 20000 in
theorem gX5_withdraw_X2_add : GoodIn wsX5_withdraw (wsV RX5 134 RX2 yX2_add wsX2_add) := goodIn_app (goodIn_of _ (by decide +kernel)) ggX5_withdraw_X2_add
set_option maxRecDepth 20000 in
theorem ggX5_withdraw_X0_takeOut : GoodIn wsX5_withdraw wsX0_takeOut := goodIn_r _ [57, 18, 23, 13, 4, 5, 6, 7, 8, 86, 87, 88, 89, 90, 91, 92, 93, 94, 95, 96] (by decide +kernel) (by decide +kernel)
set_option maxRecDepth 20000 in
theorem gX5_withdraw_X0_takeOut : GoodIn wsX5_withdraw (wsV RX5 155 RX0 yX0_takeOut wsX0_takeOut) := goodIn_app (goodIn_of _ (by decide +kernel)) ggX5_withdraw_X0_takeOut
set_option maxRecDepth 20000 in
theorem ggX5_withdraw_X0_policemen : GoodIn wsX5_withdraw wsX0_policemen := goodIn_r _ [61, 30, 62, 63, 64, 6, 65, 8, 14, 15, 16, 17, 18, 66, 67, 68, 69, 29, 13, 4, 5, 7, 31, 32, 33, 70, 71, 72, 73, 74, 75, 76, 86, 87, 88, 89, 90, 91, 92, 93, 94, 95, 96] (by decide +kernel) (by decide +kernel)
set_option maxRecDepth 20000 in
theorem gX5_withdraw_X0_policemen : GoodIn wsX5_withdraw (wsV RX5 158 RX0 yX0_policemen wsX0_policemen) := goodIn_app (goodIn_of _ (by decide +kernel)) ggX5_withdraw_X0_policemen
theorem dX5_withdraw_0 : decode cX5_withdraw 0 = .ok (.aload_n 0, 1) := by decide +kernel
theorem dX5_withdraw_1 : decode cX5_withdraw 1 = .ok (.getfield 24, 3) := by decide +kernel
theorem dX5_withdraw_4 : decode cX5_withdraw 4 = .ok (.iload_n 1, 1) := by decide +kernel
theorem dX5_withdraw_5 : decode cX5_withdraw 5 = .ok (.invokevirtual 91, 3) := by decide +kernel
theorem dX5_withdraw_8 : decode cX5_withdraw 8 = .ok (.ifCond .ne 5, 3) := by decide +kernel
theorem dX5_withdraw_11 : decode cX5_withdraw 11 = .ok (.iconst (-1), 1) := by decide +kernel
theorem dX5_withdraw_12 : decode cX5_withdraw 12 = .ok (.ireturn, 1) := by decide +kernel
theorem dX5_withdraw_13 : decode cX5_withdraw 13 = .ok (.aload_n 0, 1) := by decide +kernel
theorem dX5_withdraw_14 : decode cX5_withdraw 14 = .ok (.getfield 24, 3) := by decide +kernel
theorem dX5_withdraw_17 : decode cX5_withdraw 17 = .ok (.iload_n 1, 1) := by decide +kernel
theorem dX5_withdraw_18 : decode cX5_withdraw 18 = .ok (.invokevirtual 152, 3) := by decide +kernel
theorem dX5_withdraw_21 : decode cX5_withdraw 21 = .ok (.ifCond .ne 6, 3) := by decide +kernel
theorem dX5_withdraw_24 : decode cX5_withdraw 24 = .ok (.bipush (-2), 2) := by decide +kernel
theorem dX5_withdraw_26 : decode cX5_withdraw 26 = .ok (.ireturn, 1) := by decide +kernel
theorem dX5_withdraw_27 : decode cX5_withdraw 27 = .ok (.aload_n 0, 1) := by decide +kernel
theorem dX5_withdraw_28 : decode cX5_withdraw 28 = .ok (.getfield 39, 3) := by decide +kernel
theorem dX5_withdraw_31 : decode cX5_withdraw 31 = .ok (.aload_n 0, 1) := by decide +kernel
theorem dX5_withdraw_32 : decode cX5_withdraw 32 = .ok (.getfield 24, 3) := by decide +kernel
theorem dX5_withdraw_35 : decode cX5_withdraw 35 = .ok (.invokevirtual 134, 3) := by decide +kernel
theorem dX5_withdraw_38 : decode cX5_withdraw 38 = .ok (.aload_n 0, 1) := by decide +kernel
theorem dX5_withdraw_39 : decode cX5_withdraw 39 = .ok (.getfield 24, 3) := by decide +kernel
theorem dX5_withdraw_42 : decode cX5_withdraw 42 = .ok (.iload_n 1, 1) := by decide +kernel
theorem dX5_withdraw_43 : decode cX5_withdraw 43 = .ok (.invokevirtual 155, 3) := by decide +kernel
theorem dX5_withdraw_46 : decode cX5_withdraw 46 = .ok (.aload_n 0, 1) := by decide +kernel
theorem dX5_withdraw_47 : decode cX5_withdraw 47 = .ok (.getfield 24, 3) := by decide +kernel
theorem dX5_withdraw_50 : decode cX5_withdraw 50 = .ok (.invokevirtual 158, 3) := by decide +kernel
theorem dX5_withdraw_53 : decode cX5_withdraw 53 = .ok (.ireturn, 1) := by decide +kernel
set_option maxRecDepth 20000 in
theorem ggX5_turn_X5_isFact : GoodIn wsX5_turn wsX5_isFact := goodIn_r _ [6, 7, 8, 5, 9] (by decide +kernel) (by decide +kernel)
set_option maxRecDepth 20000 in
theorem gX5_turn_X5_isFact : GoodIn wsX5_turn (va_wsS RX5 128 yX5_isFact wsX5_isFact) := goodIn_app (goodIn_of _ (by decide +kernel)) ggX5_turn_X5_isFact
set_option maxRecDepth 20000 in
theorem ggX5_turn_X2_add : GoodIn wsX5_turn wsX2_add := goodIn_r _ [14, 15, 16, 17, 18, 19, 13, 20, 21, 22, 23, 24, 25, 26, 27, 28, 29, 30, 31, 32, 33, 34, 35, 36, 83, 84, 85, 86, 87, 88, 89, 90, 91, 92, 93, 94, 95] (by decide +kernel) (by decide +kernel)
set_option maxRecDepth 20000 in
theorem gX5_turn_X2_add : GoodIn wsX5_turn (wsV RX5 134 RX2 yX2_add wsX2_add) := goodIn_app (goodIn_of _ (by decide +kernel)) ggX5_turn_X2_add
set_option maxRecDepth 20000 in
theorem ggX5_turn_X0_turnFact : GoodIn wsX5_turn wsX0_turnFact := goodIn_r _ [40, 26, 27, 35, 4, 5, 6, 7, 8, 9, 41, 42, 43, 24, 44, 45, 46, 47, 48, 36, 49, 50, 51, 52, 28, 53, 54, 85, 86, 87, 88, 89, 90, 91, 92, 93, 94, 95] (by decide +kernel) (by decide +kernel)
set_option maxRecDepth 20000 in
theorem gX5_turn_X0_turnFact : GoodIn wsX5_turn (wsV RX5 161 RX0 yX0_turnFact wsX0_turnFact) := goodIn_app (goodIn_of _ (by decide +kernel)) ggX5_turn_X0_turnFact
set_option maxRecDepth 20000 in
theorem ggX5_turn_X0_policemen : GoodIn wsX5_turn wsX0_policemen := goodIn_r _ [58, 26, 59, 60, 61, 24, 62, 27, 49, 50, 51, 52, 28, 63, 64, 65, 66, 36, 41, 42, 43, 44, 53, 5, 54, 67, 68, 69, 70, 71, 72, 73, 85, 86, 87, 88, 89, 90, 91, 92, 93, 94, 95] (by decide +kernel) (by decide +kernel)
set_option maxRecDepth 20000 in
theorem gX5_turn_X0_policemen : GoodIn wsX5_turn (wsV RX5 158 RX0 yX0_policemen wsX0_policemen) := goodIn_app (goodIn_of _ (by decide +kernel)) ggX5_turn_X0_policemen
theorem dX5_turn_0 : decode cX5_turn 0 = .ok (.iload_n 1, 1) := by decide +kernel
theorem dX5_turn_1 : decode cX5_turn 1 = .ok (.invokestatic 128, 3) := by decide +kernel
theorem dX5_turn_4 : decode cX5_turn 4 = .ok (.ifCond .ne 5, 3) := by decide +kernel
theorem dX5_turn_7 : decode cX5_turn 7 = .ok (.iconst (-1), 1) := by decide +kernel
theorem dX5_turn_8 : decode cX5_turn 8 = .ok (.ireturn, 1) := by decide +kernel
theorem dX5_turn_9 : decode cX5_turn 9 = .ok (.aload_n 0, 1) := by decide +kernel
theorem dX5_turn_10 : decode cX5_turn 10 = .ok (.getfield 39, 3) := by decide +kernel
theorem dX5_turn_13 : decode cX5_turn 13 = .ok (.aload_n 0, 1) := by decide +kernel
theorem dX5_turn_14 : decode cX5_turn 14 = .ok (.getfield 24, 3) := by decide +kernel
theorem dX5_turn_17 : decode cX5_turn 17 = .ok (.invokevirtual 134, 3) := by decide +kernel
theorem dX5_turn_20 : decode cX5_turn 20 = .ok (.aload_n 0, 1) := by decide +kernel
theorem dX5_turn_21 : decode cX5_turn 21 = .ok (.getfield 24, 3) := by decide +kernel
theorem dX5_turn_24 : decode cX5_turn 24 = .ok (.iload_n 1, 1) := by decide +kernel
theorem dX5_turn_25 : decode cX5_turn 25 = .ok (.invokevirtual 161, 3) := by decide +kernel
theorem dX5_turn_28 : decode cX5_turn 28 = .ok (.aload_n 0, 1) := by decide +kernel
theorem dX5_turn_29 : decode cX5_turn 29 = .ok (.getfield 24, 3) := by decide +kernel
theorem dX5_turn_32 : decode cX5_turn 32 = .ok (.invokevirtual 158, 3) := by decide +kernel
theorem dX5_turn_35 : decode cX5_turn 35 = .ok (.ireturn, 1) := by decide +kernel
set_option maxRecDepth 20000 in
theorem ggX5_undo_X2_takeLast : GoodIn wsX5_undo wsX2_takeLast := goodIn_r _ [8, 9, 10, 11, 12, 13, 14, 15, 16, 17, 18, 19, 20, 21, 22, 23, 24, 25, 26, 36, 37, 38, 39, 40, 41, 42, 43, 44, 45, 46, 47, 48] (by decide +kernel) (by decide +kernel)
set_option maxRecDepth 20000 in
theorem gX5_undo_X2_takeLast : GoodIn wsX5_undo (wsV RX5 164 RX2 yX2_takeLast wsX2_takeLast) := goodIn_app (goodIn_of _ (by decide +kernel)) ggX5_undo_X2_takeLast
theorem dX5_undo_0 : decode cX5_undo 0 = .ok (.aload_n 0, 1) := by decide +kernel
theorem dX5_undo_1 : decode cX5_undo 1 = .ok (.getfield 39, 3) := by decide +kernel
theorem dX5_undo_4 : decode cX5_undo 4 = .ok (.aload_n 0, 1) := by decide +kernel
theorem dX5_undo_5 : decode cX5_undo 5 = .ok (.getfield 24, 3) := by decide +kernel
theorem dX5_undo_8 : decode cX5_undo 8 = .ok (.invokevirtual 164, 3) := by decide +kernel
theorem dX5_undo_11 : decode cX5_undo 11 = .ok (.ifCond .ne 6, 3) := by decide +kernel
theorem dX5_undo_14 : decode cX5_undo 14 = .ok (.bipush (-2), 2) := by decide +kernel
theorem dX5_undo_16 : decode cX5_undo 16 = .ok (.ireturn, 1) := by decide +kernel
theorem dX5_undo_17 : decode cX5_undo 17 = .ok (.aload_n 0, 1) := by decide +kernel
theorem dX5_undo_18 : decode cX5_undo 18 = .ok (.getfield 39, 3) := by decide +kernel
theorem dX5_undo_21 : decode cX5_undo 21 = .ok (.getfield 168, 3) := by decide +kernel
theorem dX5_undo_24 : decode cX5_undo 24 = .ok (.ireturn, 1) := by decide +kernel
set_option maxRecDepth 20000 in
theorem ggX5_behind_X5_isWithin : GoodIn wsX5_behind wsX5_isWithin := goodIn_r _ [7] (by decide +kernel) (by decide +kernel)
set_option maxRecDepth 20000 in
theorem gX5_behind_X5_isWithin : GoodIn wsX5_behind (va_wsS RX5 72 yX5_isWithin wsX5_isWithin) := goodIn_app (goodIn_of _ (by decide +kernel)) ggX5_behind_X5_isWithin
set_option maxRecDepth 20000 in
theorem ggX5_behind_X0_copy : GoodIn wsX5_behind wsX0_copy := goodIn_r _ [12, 13, 14, 15, 16, 17, 18, 19, 20, 21, 22, 23, 79, 80, 81, 82, 83, 84, 85, 86, 87, 88, 89] (by decide +kernel) (by decide +kernel)
set_option maxRecDepth 20000 in
theorem gX5_behind_X0_copy : GoodIn wsX5_behind (wsV RX5 83 RX0 yX0_copy wsX0_copy) := goodIn_app (goodIn_of _ (by decide +kernel)) ggX5_behind_X0_copy
set_option maxRecDepth 20000 in
theorem ggX5_behind_X0_passDay : GoodIn wsX5_behind wsX0_passDay := goodIn_r _ [27, 14, 28, 29, 30, 11, 31, 16, 22, 32, 33, 34, 35, 36, 37, 38, 39, 23, 13, 40, 41, 42, 43, 15, 44, 6, 45, 46, 47, 48, 49, 50, 51, 52, 53, 17, 54, 55, 56, 57, 58, 59, 60, 61, 79, 80, 81, 82, 83, 84, 85, 86, 87, 88, 89] (by decide +kernel) (by decide +kernel)
set_option maxRecDepth 20000 in
theorem gX5_behind_X0_passDay : GoodIn wsX5_behind (wsV RX5 137 RX0 yX0_passDay wsX0_passDay) := goodIn_app (goodIn_of _ (by decide +kernel)) ggX5_behind_X0_passDay
set_option maxRecDepth 20000 in
theorem ggX5_behind_X0_liesIn : GoodIn wsX5_behind wsX0_liesIn := goodIn_r _ [65, 14, 40, 41, 42, 11, 43, 15, 66, 67, 68, 69, 23, 32, 33, 34, 35, 44, 6, 45, 79, 80, 81, 82, 83, 84, 85, 86, 87, 88, 89] (by decide +kernel) (by decide +kernel)
set_option maxRecDepth 20000 in
theorem gX5_behind_X0_liesIn : GoodIn wsX5_behind (wsV RX5 171 RX0 yX0_liesIn wsX0_liesIn) := goodIn_app (goodIn_of _ (by decide +kernel)) ggX5_behind_X0_liesIn
theorem dX5_behind_0 : decode cX5_behind 0 = .ok (.iload_n 1, 1) := by decide +kernel
theorem dX5_behind_1 : decode cX5_behind 1 = .ok (.iconst 0, 1) := by decide +kernel
theorem dX5_behind_2 : decode cX5_behind 2 = .ok (.bipush 60, 2) := by decide +kernel
theorem dX5_behind_4 : decode cX5_behind 4 = .ok (.invokestatic 72, 3) := by decide +kernel
theorem dX5_behind_7 : decode cX5_behind 7 = .ok (.ifCond .ne 5, 3) := by decide +kernel
theorem dX5_behind_10 : decode cX5_behind 10 = .ok (.iconst (-1), 1) := by decide +kernel
theorem dX5_behind_11 : decode cX5_behind 11 = .ok (.ireturn, 1) := by decide +kernel
theorem dX5_behind_12 : decode cX5_behind 12 = .ok (.aload_n 0, 1) := by decide +kernel
theorem dX5_behind_13 : decode cX5_behind 13 = .ok (.getfield 31, 3) := by decide +kernel
theorem dX5_behind_16 : decode cX5_behind 16 = .ok (.aload_n 0, 1) := by decide +kernel
theorem dX5_behind_17 : decode cX5_behind 17 = .ok (.getfield 24, 3) := by decide +kernel
theorem dX5_behind_20 : decode cX5_behind 20 = .ok (.invokevirtual 83, 3) := by decide +kernel
theorem dX5_behind_23 : decode cX5_behind 23 = .ok (.iconst 0, 1) := by decide +kernel
theorem dX5_behind_24 : decode cX5_behind 24 = .ok (.istore_n 2, 1) := by decide +kernel
theorem dX5_behind_25 : decode cX5_behind 25 = .ok (.iload_n 2, 1) := by decide +kernel
theorem dX5_behind_26 : decode cX5_behind 26 = .ok (.iload_n 1, 1) := by decide +kernel
theorem dX5_behind_27 : decode cX5_behind 27 = .ok (.if_icmp .ge 17, 3) := by decide +kernel
theorem dX5_behind_30 : decode cX5_behind 30 = .ok (.aload_n 0, 1) := by decide +kernel
theorem dX5_behind_31 : decode cX5_behind 31 = .ok (.getfield 31, 3) := by decide +kernel
theorem dX5_behind_34 : decode cX5_behind 34 = .ok (.invokevirtual 137, 3) := by decide +kernel
theorem dX5_behind_37 : decode cX5_behind 37 = .ok (.pop, 1) := by decide +kernel
theorem dX5_behind_38 : decode cX5_behind 38 = .ok (.iinc 2 1, 3) := by decide +kernel
theorem dX5_behind_41 : decode cX5_behind 41 = .ok (.goto (-16), 3) := by decide +kernel
theorem dX5_behind_44 : decode cX5_behind 44 = .ok (.aload_n 0, 1) := by decide +kernel
theorem dX5_behind_45 : decode cX5_behind 45 = .ok (.getfield 31, 3) := by decide +kernel
theorem dX5_behind_48 : decode cX5_behind 48 = .ok (.aload_n 0, 1) := by decide +kernel
theorem dX5_behind_49 : decode cX5_behind 49 = .ok (.getfield 31, 3) := by decide +kernel
theorem dX5_behind_52 : decode cX5_behind 52 = .ok (.getfield 108, 3) := by decide +kernel
theorem dX5_behind_55 : decode cX5_behind 55 = .ok (.invokevirtual 171, 3) := by decide +kernel
theorem dX5_behind_58 : decode cX5_behind 58 = .ok (.ireturn, 1) := by decide +kernel
set_option maxRecDepth 20000 in
theorem ggX5_fall_X5_isWithin : GoodIn wsX5_fall wsX5_isWithin := goodIn_r _ [6] (by decide +kernel) (by decide +kernel)
set_option maxRecDepth 20000 in
theorem gX5_fall_X5_isWithin : GoodIn wsX5_fall (va_wsS RX5 72 yX5_isWithin wsX5_isWithin) := goodIn_app (goodIn_of _ (by decide +kernel)) ggX5_fall_X5_isWithin
set_option maxRecDepth 20000 in
theorem ggX5_fall_X0_copy : GoodIn wsX5_fall wsX0_copy := goodIn_r _ [11, 12, 13, 14, 15, 16, 17, 18, 19, 20, 21, 22, 67, 68, 69, 70, 71, 72, 73, 74, 75, 76, 77] (by decide +kernel) (by decide +kernel)
set_option maxRecDepth 20000 in
theorem gX5_fall_X0_copy : GoodIn wsX5_fall (wsV RX5 83 RX0 yX0_copy wsX0_copy) := goodIn_app (goodIn_of _ (by decide +kernel)) ggX5_fall_X0_copy
set_option maxRecDepth 20000 in
theorem ggX5_fall_X0_serveDay : GoodIn wsX5_fall wsX0_serveDay := goodIn_r _ [26, 15, 13, 21, 27, 28, 29, 10, 30, 31, 32, 33, 34, 22, 12, 35, 36, 37, 38, 14, 39, 5, 40, 67, 68, 69, 70, 71, 72, 73, 74, 75, 76, 77] (by decide +kernel) (by decide +kernel)
set_option maxRecDepth 20000 in
theorem gX5_fall_X0_serveDay : GoodIn wsX5_fall (wsV RX5 175 RX0 yX0_serveDay wsX0_serveDay) := goodIn_app (goodIn_of _ (by decide +kernel)) ggX5_fall_X0_serveDay
set_option maxRecDepth 20000 in
theorem ggX5_fall_X0_firstToFall : GoodIn wsX5_fall wsX0_firstToFall := goodIn_r _ [44, 13, 45, 46, 47, 10, 48, 49, 50, 51, 52, 21, 16, 27, 28, 29, 30, 31, 32, 33, 34, 22, 12, 35, 36, 37, 38, 14, 39, 5, 40, 53, 54, 55, 56, 67, 68, 69, 70, 71, 72, 73, 74, 75, 76, 77] (by decide +kernel) (by decide +kernel)
set_option maxRecDepth 20000 in
theorem gX5_fall_X0_firstToFall : GoodIn wsX5_fall (wsV RX5 178 RX0 yX0_firstToFall wsX0_firstToFall) := goodIn_app (goodIn_of _ (by decide +kernel)) ggX5_fall_X0_firstToFall
set_option maxRecDepth 20000 in
theorem ggX5_fall_X0_mateOf : GoodIn wsX5_fall wsX0_mateOf := goodIn_r _ [48, 13, 49, 50, 51, 10, 52, 21, 16, 27, 28, 29, 30, 31, 32, 33, 34, 22, 12, 35, 36, 37, 38, 14, 39, 5, 40, 53, 54, 55, 56, 67, 68, 69, 70, 71, 72, 73, 74, 75, 76, 77] (by decide +kernel) (by decide +kernel)
set_option maxRecDepth 20000 in
theorem gX5_fall_X0_mateOf : GoodIn wsX5_fall (wsV RX5 181 RX0 yX0_mateOf wsX0_mateOf) := goodIn_app (goodIn_of _ (by decide +kernel)) ggX5_fall_X0_mateOf
theorem dX5_fall_0 : decode cX5_fall 0 = .ok (.iload_n 1, 1) := by decide +kernel
theorem dX5_fall_1 : decode cX5_fall 1 = .ok (.iconst 0, 1) := by decide +kernel
theorem dX5_fall_2 : decode cX5_fall 2 = .ok (.iconst 1, 1) := by decide +kernel
theorem dX5_fall_3 : decode cX5_fall 3 = .ok (.invokestatic 72, 3) := by decide +kernel
theorem dX5_fall_6 : decode cX5_fall 6 = .ok (.ifCond .ne 5, 3) := by decide +kernel
theorem dX5_fall_9 : decode cX5_fall 9 = .ok (.iconst (-1), 1) := by decide +kernel
theorem dX5_fall_10 : decode cX5_fall 10 = .ok (.ireturn, 1) := by decide +kernel
theorem dX5_fall_11 : decode cX5_fall 11 = .ok (.aload_n 0, 1) := by decide +kernel
theorem dX5_fall_12 : decode cX5_fall 12 = .ok (.getfield 31, 3) := by decide +kernel
theorem dX5_fall_15 : decode cX5_fall 15 = .ok (.aload_n 0, 1) := by decide +kernel
theorem dX5_fall_16 : decode cX5_fall 16 = .ok (.getfield 24, 3) := by decide +kernel
theorem dX5_fall_19 : decode cX5_fall 19 = .ok (.invokevirtual 83, 3) := by decide +kernel
theorem dX5_fall_22 : decode cX5_fall 22 = .ok (.iconst 1, 1) := by decide +kernel
theorem dX5_fall_23 : decode cX5_fall 23 = .ok (.istore_n 2, 1) := by decide +kernel
theorem dX5_fall_24 : decode cX5_fall 24 = .ok (.iload_n 2, 1) := by decide +kernel
theorem dX5_fall_25 : decode cX5_fall 25 = .ok (.bipush 60, 2) := by decide +kernel
theorem dX5_fall_27 : decode cX5_fall 27 = .ok (.if_icmp .gt 53, 3) := by decide +kernel
theorem dX5_fall_30 : decode cX5_fall 30 = .ok (.aload_n 0, 1) := by decide +kernel
theorem dX5_fall_31 : decode cX5_fall 31 = .ok (.getfield 31, 3) := by decide +kernel
theorem dX5_fall_34 : decode cX5_fall 34 = .ok (.invokevirtual 175, 3) := by decide +kernel
theorem dX5_fall_37 : decode cX5_fall 37 = .ok (.aload_n 0, 1) := by decide +kernel
theorem dX5_fall_38 : decode cX5_fall 38 = .ok (.getfield 31, 3) := by decide +kernel
theorem dX5_fall_41 : decode cX5_fall 41 = .ok (.invokevirtual 178, 3) := by decide +kernel
theorem dX5_fall_44 : decode cX5_fall 44 = .ok (.istore_n 3, 1) := by decide +kernel
theorem dX5_fall_45 : decode cX5_fall 45 = .ok (.iload_n 3, 1) := by decide +kernel
theorem dX5_fall_46 : decode cX5_fall 46 = .ok (.bipush (-4), 2) := by decide +kernel
theorem dX5_fall_48 : decode cX5_fall 48 = .ok (.if_icmp .eq 26, 3) := by decide +kernel
theorem dX5_fall_51 : decode cX5_fall 51 = .ok (.iload_n 1, 1) := by decide +kernel
theorem dX5_fall_52 : decode cX5_fall 52 = .ok (.iconst 1, 1) := by decide +kernel
theorem dX5_fall_53 : decode cX5_fall 53 = .ok (.if_icmp .ne 7, 3) := by decide +kernel
theorem dX5_fall_56 : decode cX5_fall 56 = .ok (.iload_n 2, 1) := by decide +kernel
theorem dX5_fall_57 : decode cX5_fall 57 = .ok (.goto 16, 3) := by decide +kernel
theorem dX5_fall_60 : decode cX5_fall 60 = .ok (.bipush 10, 2) := by decide +kernel
theorem dX5_fall_62 : decode cX5_fall 62 = .ok (.iload_n 3, 1) := by decide +kernel
theorem dX5_fall_63 : decode cX5_fall 63 = .ok (.imul, 1) := by decide +kernel
theorem dX5_fall_64 : decode cX5_fall 64 = .ok (.aload_n 0, 1) := by decide +kernel
theorem dX5_fall_65 : decode cX5_fall 65 = .ok (.getfield 31, 3) := by decide +kernel
theorem dX5_fall_68 : decode cX5_fall 68 = .ok (.iload_n 3, 1) := by decide +kernel
theorem dX5_fall_69 : decode cX5_fall 69 = .ok (.invokevirtual 181, 3) := by decide +kernel
theorem dX5_fall_72 : decode cX5_fall 72 = .ok (.iadd, 1) := by decide +kernel
theorem dX5_fall_73 : decode cX5_fall 73 = .ok (.ireturn, 1) := by decide +kernel
theorem dX5_fall_74 : decode cX5_fall 74 = .ok (.iinc 2 1, 3) := by decide +kernel
theorem dX5_fall_77 : decode cX5_fall 77 = .ok (.goto (-53), 3) := by decide +kernel
theorem dX5_fall_80 : decode cX5_fall 80 = .ok (.bipush (-4), 2) := by decide +kernel
theorem dX5_fall_82 : decode cX5_fall 82 = .ok (.ireturn, 1) := by decide +kernel
set_option maxRecDepth 20000 in
theorem ggX5_core_X0_lowestCore : GoodIn wsX5_core wsX0_lowestCore := goodIn_r _ [6, 7, 8, 9, 5, 10, 11, 12, 13, 14, 15, 16, 17, 18, 19, 20, 21, 22, 23, 24, 25, 26, 27, 28, 29, 30, 31, 32, 42, 43, 44, 45, 46, 47, 48, 49, 50, 51, 52] (by decide +kernel) (by decide +kernel)
set_option maxRecDepth 20000 in
theorem gX5_core_X0_lowestCore : GoodIn wsX5_core (wsV RX5 184 RX0 yX0_lowestCore wsX0_lowestCore) := goodIn_app (goodIn_of _ (by decide +kernel)) ggX5_core_X0_lowestCore
theorem dX5_core_0 : decode cX5_core 0 = .ok (.aload_n 0, 1) := by decide +kernel
theorem dX5_core_1 : decode cX5_core 1 = .ok (.getfield 24, 3) := by decide +kernel
theorem dX5_core_4 : decode cX5_core 4 = .ok (.invokevirtual 184, 3) := by decide +kernel
theorem dX5_core_7 : decode cX5_core 7 = .ok (.ireturn, 1) := by decide +kernel
set_option maxRecDepth 20000 in
theorem ggX5_cut_X0_lowestCut : GoodIn wsX5_cut wsX0_lowestCut := goodIn_r _ [6, 7, 8, 9, 5, 10, 11, 12, 13, 14, 15, 16, 17, 18, 19, 20, 21, 22, 23, 24, 25, 26, 27, 28, 29, 30, 31, 32, 42, 43, 44, 45, 46, 47, 48, 49, 50, 51, 52] (by decide +kernel) (by decide +kernel)
set_option maxRecDepth 20000 in
theorem gX5_cut_X0_lowestCut : GoodIn wsX5_cut (wsV RX5 187 RX0 yX0_lowestCut wsX0_lowestCut) := goodIn_app (goodIn_of _ (by decide +kernel)) ggX5_cut_X0_lowestCut
theorem dX5_cut_0 : decode cX5_cut 0 = .ok (.aload_n 0, 1) := by decide +kernel
theorem dX5_cut_1 : decode cX5_cut 1 = .ok (.getfield 24, 3) := by decide +kernel
theorem dX5_cut_4 : decode cX5_cut 4 = .ok (.invokevirtual 187, 3) := by decide +kernel
theorem dX5_cut_7 : decode cX5_cut 7 = .ok (.ireturn, 1) := by decide +kernel
set_option maxRecDepth 20000 in
theorem ggX5_truest_X5_isWithin : GoodIn wsX5_truest wsX5_isWithin := goodIn_r _ [5] (by decide +kernel) (by decide +kernel)
set_option maxRecDepth 20000 in
theorem gX5_truest_X5_isWithin : GoodIn wsX5_truest (va_wsS RX5 72 yX5_isWithin wsX5_isWithin) := goodIn_app (goodIn_of _ (by decide +kernel)) ggX5_truest_X5_isWithin
set_option maxRecDepth 20000 in
theorem ggX5_truest_X0_soAtOnce : GoodIn wsX5_truest wsX0_soAtOnce := goodIn_r _ [10, 11, 12, 13, 9, 14, 15, 16, 17, 18, 19, 20, 21, 22, 23, 24, 25, 26, 27, 28, 29, 30, 31, 32, 33, 34, 4, 35, 36, 37, 38, 39, 40, 41, 42, 52, 53, 54, 55, 56, 57, 58, 59, 60, 61, 62] (by decide +kernel) (by decide +kernel)
set_option maxRecDepth 20000 in
theorem gX5_truest_X0_soAtOnce : GoodIn wsX5_truest (wsV RX5 190 RX0 yX0_soAtOnce wsX0_soAtOnce) := goodIn_app (goodIn_of _ (by decide +kernel)) ggX5_truest_X0_soAtOnce
theorem dX5_truest_0 : decode cX5_truest 0 = .ok (.iload_n 1, 1) := by decide +kernel
theorem dX5_truest_1 : decode cX5_truest 1 = .ok (.iconst 0, 1) := by decide +kernel
theorem dX5_truest_2 : decode cX5_truest 2 = .ok (.iconst 1, 1) := by decide +kernel
theorem dX5_truest_3 : decode cX5_truest 3 = .ok (.invokestatic 72, 3) := by decide +kernel
theorem dX5_truest_6 : decode cX5_truest 6 = .ok (.ifCond .ne 5, 3) := by decide +kernel
theorem dX5_truest_9 : decode cX5_truest 9 = .ok (.iconst (-1), 1) := by decide +kernel
theorem dX5_truest_10 : decode cX5_truest 10 = .ok (.ireturn, 1) := by decide +kernel
theorem dX5_truest_11 : decode cX5_truest 11 = .ok (.iconst (-1), 1) := by decide +kernel
theorem dX5_truest_12 : decode cX5_truest 12 = .ok (.istore_n 2, 1) := by decide +kernel
theorem dX5_truest_13 : decode cX5_truest 13 = .ok (.iconst 0, 1) := by decide +kernel
theorem dX5_truest_14 : decode cX5_truest 14 = .ok (.istore_n 3, 1) := by decide +kernel
theorem dX5_truest_15 : decode cX5_truest 15 = .ok (.iconst 0, 1) := by decide +kernel
theorem dX5_truest_16 : decode cX5_truest 16 = .ok (.istore 4, 2) := by decide +kernel
theorem dX5_truest_18 : decode cX5_truest 18 = .ok (.iload 4, 2) := by decide +kernel
theorem dX5_truest_20 : decode cX5_truest 20 = .ok (.bipush 64, 2) := by decide +kernel
theorem dX5_truest_22 : decode cX5_truest 22 = .ok (.if_icmp .ge 32, 3) := by decide +kernel
theorem dX5_truest_25 : decode cX5_truest 25 = .ok (.aload_n 0, 1) := by decide +kernel
theorem dX5_truest_26 : decode cX5_truest 26 = .ok (.getfield 24, 3) := by decide +kernel
theorem dX5_truest_29 : decode cX5_truest 29 = .ok (.iload 4, 2) := by decide +kernel
theorem dX5_truest_31 : decode cX5_truest 31 = .ok (.invokevirtual 190, 3) := by decide +kernel
theorem dX5_truest_34 : decode cX5_truest 34 = .ok (.istore 5, 2) := by decide +kernel
theorem dX5_truest_36 : decode cX5_truest 36 = .ok (.iload 5, 2) := by decide +kernel
theorem dX5_truest_38 : decode cX5_truest 38 = .ok (.iload_n 2, 1) := by decide +kernel
theorem dX5_truest_39 : decode cX5_truest 39 = .ok (.if_icmp .le 9, 3) := by decide +kernel
theorem dX5_truest_42 : decode cX5_truest 42 = .ok (.iload 5, 2) := by decide +kernel
theorem dX5_truest_44 : decode cX5_truest 44 = .ok (.istore_n 2, 1) := by decide +kernel
theorem dX5_truest_45 : decode cX5_truest 45 = .ok (.iload 4, 2) := by decide +kernel
theorem dX5_truest_47 : decode cX5_truest 47 = .ok (.istore_n 3, 1) := by decide +kernel
theorem dX5_truest_48 : decode cX5_truest 48 = .ok (.iinc 4 1, 3) := by decide +kernel
theorem dX5_truest_51 : decode cX5_truest 51 = .ok (.goto (-33), 3) := by decide +kernel
theorem dX5_truest_54 : decode cX5_truest 54 = .ok (.iload_n 1, 1) := by decide +kernel
theorem dX5_truest_55 : decode cX5_truest 55 = .ok (.ifCond .ne 7, 3) := by decide +kernel
theorem dX5_truest_58 : decode cX5_truest 58 = .ok (.iload_n 2, 1) := by decide +kernel
theorem dX5_truest_59 : decode cX5_truest 59 = .ok (.goto 4, 3) := by decide +kernel
theorem dX5_truest_62 : decode cX5_truest 62 = .ok (.iload_n 3, 1) := by decide +kernel
theorem dX5_truest_63 : decode cX5_truest 63 = .ok (.ireturn, 1) := by decide +kernel
set_option maxRecDepth 20000 in
theorem ggX5_married_X0_liesIn : GoodIn wsX5_married wsX0_liesIn := goodIn_r _ [7, 8, 9, 10, 11, 6, 12, 13, 14, 15, 16, 17, 18, 19, 20, 21, 22, 23, 24, 25, 55, 56, 57, 58, 59, 60, 61, 62, 63, 64, 65] (by decide +kernel) (by decide +kernel)
set_option maxRecDepth 20000 in
theorem gX5_married_X0_liesIn : GoodIn wsX5_married (wsV RX5 171 RX0 yX0_liesIn wsX0_liesIn) := goodIn_app (goodIn_of _ (by decide +kernel)) ggX5_married_X0_liesIn
set_option maxRecDepth 20000 in
theorem ggX5_married_X5_mostPairs : GoodIn wsX5_married wsX5_mostPairs := goodIn_r _ [28, 29, 30, 31, 32, 33, 26, 27, 24, 34, 35, 36, 37, 38, 39, 6, 40, 41, 19, 20, 21, 22, 8, 42, 43, 44, 45, 18, 55, 56, 57, 58, 59, 60, 61, 62, 63, 64, 65] (by decide +kernel) (by decide +kernel)
set_option maxRecDepth 20000 in
theorem gX5_married_X5_mostPairs : GoodIn wsX5_married (va_wsS RX5 193 yX5_mostPairs wsX5_mostPairs) := goodIn_app (goodIn_of _ (by decide +kernel)) ggX5_married_X5_mostPairs
theorem dX5_married_0 : decode cX5_married 0 = .ok (.aload_n 0, 1) := by decide +kernel
theorem dX5_married_1 : decode cX5_married 1 = .ok (.getfield 24, 3) := by decide +kernel
theorem dX5_married_4 : decode cX5_married 4 = .ok (.aload_n 0, 1) := by decide +kernel
theorem dX5_married_5 : decode cX5_married 5 = .ok (.getfield 24, 3) := by decide +kernel
theorem dX5_married_8 : decode cX5_married 8 = .ok (.aload_n 0, 1) := by decide +kernel
theorem dX5_married_9 : decode cX5_married 9 = .ok (.getfield 24, 3) := by decide +kernel
theorem dX5_married_12 : decode cX5_married 12 = .ok (.getfield 108, 3) := by decide +kernel
theorem dX5_married_15 : decode cX5_married 15 = .ok (.invokevirtual 171, 3) := by decide +kernel
theorem dX5_married_18 : decode cX5_married 18 = .ok (.iconst 0, 1) := by decide +kernel
theorem dX5_married_19 : decode cX5_married 19 = .ok (.invokestatic 193, 3) := by decide +kernel
theorem dX5_married_22 : decode cX5_married 22 = .ok (.ireturn, 1) := by decide +kernel
set_option maxRecDepth 20000 in
theorem ggX5_trial_X5_isWithin : GoodIn wsX5_trial wsX5_isWithin := goodIn_r _ [7] (by decide +kernel) (by decide +kernel)
set_option maxRecDepth 20000 in
theorem gX5_trial_X5_isWithin : GoodIn wsX5_trial (va_wsS RX5 72 yX5_isWithin wsX5_isWithin) := goodIn_app (goodIn_of _ (by decide +kernel)) ggX5_trial_X5_isWithin
set_option maxRecDepth 20000 in
theorem ggX5_trial_X1_lookAhead : GoodIn wsX5_trial wsX1_lookAhead := goodIn_r _ [12, 13, 14, 15, 16, 17, 18, 19, 20, 21, 22, 23, 24, 25, 26, 27, 28, 29, 30, 31, 32, 33, 34, 35, 6, 36, 37, 38, 39, 40, 41, 42, 43, 44, 45, 46, 11, 47, 48, 49, 50, 51, 52, 53, 54, 55, 56, 57, 58, 5, 7, 88, 89, 77, 78, 79, 80, 81, 82, 83, 84, 85, 86, 87] (by decide +kernel) (by decide +kernel)
set_option maxRecDepth 20000 in
theorem gX5_trial_X1_lookAhead : GoodIn wsX5_trial (wsV RX5 197 RX1 yX1_lookAhead wsX1_lookAhead) := goodIn_app (goodIn_of _ (by decide +kernel)) ggX5_trial_X1_lookAhead
set_option maxRecDepth 20000 in
theorem ggX5_trial_X1_outcome : GoodIn wsX5_trial wsX1_outcome := goodIn_r _ [62, 13, 5, 6, 7, 88, 89] (by decide +kernel) (by decide +kernel)
set_option maxRecDepth 20000 in
theorem gX5_trial_X1_outcome : GoodIn wsX5_trial (wsV RX5 201 RX1 yX1_outcome wsX1_outcome) := goodIn_app (goodIn_of _ (by decide +kernel)) ggX5_trial_X1_outcome
set_option maxRecDepth 20000 in
theorem ggX5_trial_X1_firstMove : GoodIn wsX5_trial wsX1_firstMove := goodIn_r _ [66, 67, 60, 61, 11, 62, 13, 5, 6, 7, 55, 56, 57, 58, 14, 88, 89] (by decide +kernel) (by decide +kernel)
set_option maxRecDepth 20000 in
theorem gX5_trial_X1_firstMove : GoodIn wsX5_trial (wsV RX5 204 RX1 yX1_firstMove wsX1_firstMove) := goodIn_app (goodIn_of _ (by decide +kernel)) ggX5_trial_X1_firstMove
theorem dX5_trial_0 : decode cX5_trial 0 = .ok (.iload_n 1, 1) := by decide +kernel
theorem dX5_trial_1 : decode cX5_trial 1 = .ok (.iconst 1, 1) := by decide +kernel
theorem dX5_trial_2 : decode cX5_trial 2 = .ok (.iconst 4, 1) := by decide +kernel
theorem dX5_trial_3 : decode cX5_trial 3 = .ok (.invokestatic 72, 3) := by decide +kernel
theorem dX5_trial_6 : decode cX5_trial 6 = .ok (.ifCond .eq 12, 3) := by decide +kernel
theorem dX5_trial_9 : decode cX5_trial 9 = .ok (.iload_n 2, 1) := by decide +kernel
theorem dX5_trial_10 : decode cX5_trial 10 = .ok (.iconst 0, 1) := by decide +kernel
theorem dX5_trial_11 : decode cX5_trial 11 = .ok (.iconst 1, 1) := by decide +kernel
theorem dX5_trial_12 : decode cX5_trial 12 = .ok (.invokestatic 72, 3) := by decide +kernel
theorem dX5_trial_15 : decode cX5_trial 15 = .ok (.ifCond .ne 5, 3) := by decide +kernel
theorem dX5_trial_18 : decode cX5_trial 18 = .ok (.iconst (-1), 1) := by decide +kernel
theorem dX5_trial_19 : decode cX5_trial 19 = .ok (.ireturn, 1) := by decide +kernel
theorem dX5_trial_20 : decode cX5_trial 20 = .ok (.aload_n 0, 1) := by decide +kernel
theorem dX5_trial_21 : decode cX5_trial 21 = .ok (.getfield 56, 3) := by decide +kernel
theorem dX5_trial_24 : decode cX5_trial 24 = .ok (.aload_n 0, 1) := by decide +kernel
theorem dX5_trial_25 : decode cX5_trial 25 = .ok (.getfield 24, 3) := by decide +kernel
theorem dX5_trial_28 : decode cX5_trial 28 = .ok (.iload_n 1, 1) := by decide +kernel
theorem dX5_trial_29 : decode cX5_trial 29 = .ok (.invokevirtual 197, 3) := by decide +kernel
theorem dX5_trial_32 : decode cX5_trial 32 = .ok (.iload_n 2, 1) := by decide +kernel
theorem dX5_trial_33 : decode cX5_trial 33 = .ok (.ifCond .ne 20, 3) := by decide +kernel
theorem dX5_trial_36 : decode cX5_trial 36 = .ok (.aload_n 0, 1) := by decide +kernel
theorem dX5_trial_37 : decode cX5_trial 37 = .ok (.getfield 56, 3) := by decide +kernel
theorem dX5_trial_40 : decode cX5_trial 40 = .ok (.aload_n 0, 1) := by decide +kernel
theorem dX5_trial_41 : decode cX5_trial 41 = .ok (.getfield 24, 3) := by decide +kernel
theorem dX5_trial_44 : decode cX5_trial 44 = .ok (.getfield 108, 3) := by decide +kernel
theorem dX5_trial_47 : decode cX5_trial 47 = .ok (.invokevirtual 201, 3) := by decide +kernel
theorem dX5_trial_50 : decode cX5_trial 50 = .ok (.goto 17, 3) := by decide +kernel
theorem dX5_trial_53 : decode cX5_trial 53 = .ok (.aload_n 0, 1) := by decide +kernel
theorem dX5_trial_54 : decode cX5_trial 54 = .ok (.getfield 56, 3) := by decide +kernel
theorem dX5_trial_57 : decode cX5_trial 57 = .ok (.aload_n 0, 1) := by decide +kernel
theorem dX5_trial_58 : decode cX5_trial 58 = .ok (.getfield 24, 3) := by decide +kernel
theorem dX5_trial_61 : decode cX5_trial 61 = .ok (.getfield 108, 3) := by decide +kernel
theorem dX5_trial_64 : decode cX5_trial 64 = .ok (.invokevirtual 204, 3) := by decide +kernel
theorem dX5_trial_67 : decode cX5_trial 67 = .ok (.ireturn, 1) := by decide +kernel
set_option maxRecDepth 20000 in
theorem ggX5_see_X0_isThere : GoodIn wsX5_see wsX0_isThere := goodIn_r _ [7, 8, 26, 27, 28, 29, 30, 31, 32, 33, 34, 35, 36] (by decide +kernel) (by decide +kernel)
set_option maxRecDepth 20000 in
theorem gX5_see_X0_isThere : GoodIn wsX5_see (wsV RX5 91 RX0 yX0_isThere wsX0_isThere) := goodIn_app (goodIn_of _ (by decide +kernel)) ggX5_see_X0_isThere
set_option maxRecDepth 20000 in
theorem ggX5_see_X4_add : GoodIn wsX5_see wsX4_add := goodIn_r _ [13, 14, 15, 16, 37, 38, 39] (by decide +kernel) (by decide +kernel)
set_option maxRecDepth 20000 in
theorem gX5_see_X4_add : GoodIn wsX5_see (wsV RX5 207 RX4 yX4_add wsX4_add) := goodIn_app (goodIn_of _ (by decide +kernel)) ggX5_see_X4_add
theorem dX5_see_0 : decode cX5_see 0 = .ok (.aload_n 0, 1) := by decide +kernel
theorem dX5_see_1 : decode cX5_see 1 = .ok (.getfield 24, 3) := by decide +kernel
theorem dX5_see_4 : decode cX5_see 4 = .ok (.iload_n 1, 1) := by decide +kernel
theorem dX5_see_5 : decode cX5_see 5 = .ok (.invokevirtual 91, 3) := by decide +kernel
theorem dX5_see_8 : decode cX5_see 8 = .ok (.ifCond .ne 5, 3) := by decide +kernel
theorem dX5_see_11 : decode cX5_see 11 = .ok (.iconst (-1), 1) := by decide +kernel
theorem dX5_see_12 : decode cX5_see 12 = .ok (.ireturn, 1) := by decide +kernel
theorem dX5_see_13 : decode cX5_see 13 = .ok (.aload_n 0, 1) := by decide +kernel
theorem dX5_see_14 : decode cX5_see 14 = .ok (.getfield 49, 3) := by decide +kernel
theorem dX5_see_17 : decode cX5_see 17 = .ok (.iload_n 1, 1) := by decide +kernel
theorem dX5_see_18 : decode cX5_see 18 = .ok (.iload_n 2, 1) := by decide +kernel
theorem dX5_see_19 : decode cX5_see 19 = .ok (.invokevirtual 207, 3) := by decide +kernel
theorem dX5_see_22 : decode cX5_see 22 = .ok (.ireturn, 1) := by decide +kernel
