theorem dX6_readSayingOf_1 : decode cX6_readSayingOf 1 = .ok (.getfield 28, 3) := by decide +kernel
theorem dX6_readSayingOf_4 : decode cX6_readSayingOf 4 = .ok (.iconst 2, 1) := by decide +kernel
theorem dX6_readSayingOf_5 : decode cX6_readSayingOf 5 = .ok (.iaload, 1) := by decide +kernel
theorem dX6_readSayingOf_6 : decode cX6_readSayingOf 6 = .ok (.bipush 9, 2) := by decide +kernel
theorem dX6_readSayingOf_8 : decode cX6_readSayingOf 8 = .ok (.if_icmp .eq 53, 3) := by decide +kernel
theorem dX6_readSayingOf_11 : decode cX6_readSayingOf 11 = .ok (.aload_n 0, 1) := by decide +kernel
theorem dX6_readSayingOf_12 : decode cX6_readSayingOf 12 = .ok (.iconst 4, 1) := by decide +kernel
theorem dX6_readSayingOf_13 : decode cX6_readSayingOf 13 = .ok (.invokevirtual 82, 3) := by decide +kernel
theorem dX6_readSayingOf_16 : decode cX6_readSayingOf 16 = .ok (.ifCond .eq 45, 3) := by decide +kernel
theorem dX6_readSayingOf_19 : decode cX6_readSayingOf 19 = .ok (.aload_n 0, 1) := by decide +kernel
theorem dX6_readSayingOf_20 : decode cX6_readSayingOf 20 = .ok (.iconst 0, 1) := by decide +kernel
theorem dX6_readSayingOf_21 : decode cX6_readSayingOf 21 = .ok (.iconst 0, 1) := by decide +kernel
theorem dX6_readSayingOf_22 : decode cX6_readSayingOf 22 = .ok (.iconst 4, 1) := by decide +kernel
theorem dX6_readSayingOf_23 : decode cX6_readSayingOf 23 = .ok (.invokevirtual 85, 3) := by decide +kernel
theorem dX6_readSayingOf_26 : decode cX6_readSayingOf 26 = .ok (.ifCond .eq 35, 3) := by decide +kernel
theorem dX6_readSayingOf_29 : decode cX6_readSayingOf 29 = .ok (.aload_n 0, 1) := by decide +kernel
theorem dX6_readSayingOf_30 : decode cX6_readSayingOf 30 = .ok (.iconst 1, 1) := by decide +kernel
theorem dX6_readSayingOf_31 : decode cX6_readSayingOf 31 = .ok (.iconst 0, 1) := by decide +kernel
theorem dX6_readSayingOf_32 : decode cX6_readSayingOf 32 = .ok (.bipush 11, 2) := by decide +kernel
theorem dX6_readSayingOf_34 : decode cX6_readSayingOf 34 = .ok (.invokevirtual 85, 3) := by decide +kernel
theorem dX6_readSayingOf_37 : decode cX6_readSayingOf 37 = .ok (.ifCond .eq 24, 3) := by decide +kernel
theorem dX6_readSayingOf_40 : decode cX6_readSayingOf 40 = .ok (.aload_n 0, 1) := by decide +kernel
theorem dX6_readSayingOf_41 : decode cX6_readSayingOf 41 = .ok (.iconst 2, 1) := by decide +kernel
theorem dX6_readSayingOf_42 : decode cX6_readSayingOf 42 = .ok (.iconst 0, 1) := by decide +kernel
theorem dX6_readSayingOf_43 : decode cX6_readSayingOf 43 = .ok (.bipush 11, 2) := by decide +kernel
theorem dX6_readSayingOf_45 : decode cX6_readSayingOf 45 = .ok (.invokevirtual 85, 3) := by decide +kernel
theorem dX6_readSayingOf_48 : decode cX6_readSayingOf 48 = .ok (.ifCond .eq 13, 3) := by decide +kernel
theorem dX6_readSayingOf_51 : decode cX6_readSayingOf 51 = .ok (.aload_n 0, 1) := by decide +kernel
theorem dX6_readSayingOf_52 : decode cX6_readSayingOf 52 = .ok (.iconst 3, 1) := by decide +kernel
theorem dX6_readSayingOf_53 : decode cX6_readSayingOf 53 = .ok (.iconst 0, 1) := by decide +kernel
theorem dX6_readSayingOf_54 : decode cX6_readSayingOf 54 = .ok (.iconst 5, 1) := by decide +kernel
theorem dX6_readSayingOf_55 : decode cX6_readSayingOf 55 = .ok (.invokevirtual 85, 3) := by decide +kernel
theorem dX6_readSayingOf_58 : decode cX6_readSayingOf 58 = .ok (.ifCond .ne 5, 3) := by decide +kernel
theorem dX6_readSayingOf_61 : decode cX6_readSayingOf 61 = .ok (.iconst 0, 1) := by decide +kernel
theorem dX6_readSayingOf_62 : decode cX6_readSayingOf 62 = .ok (.ireturn, 1) := by decide +kernel
theorem dX6_readSayingOf_63 : decode cX6_readSayingOf 63 = .ok (.aload_n 0, 1) := by decide +kernel
theorem dX6_readSayingOf_64 : decode cX6_readSayingOf 64 = .ok (.aload_n 0, 1) := by decide +kernel
theorem dX6_readSayingOf_65 : decode cX6_readSayingOf 65 = .ok (.getfield 25, 3) := by decide +kernel
theorem dX6_readSayingOf_68 : decode cX6_readSayingOf 68 = .ok (.iconst 0, 1) := by decide +kernel
theorem dX6_readSayingOf_69 : decode cX6_readSayingOf 69 = .ok (.iaload, 1) := by decide +kernel
theorem dX6_readSayingOf_70 : decode cX6_readSayingOf 70 = .ok (.aload_n 0, 1) := by decide +kernel
theorem dX6_readSayingOf_71 : decode cX6_readSayingOf 71 = .ok (.getfield 25, 3) := by decide +kernel
theorem dX6_readSayingOf_74 : decode cX6_readSayingOf 74 = .ok (.iconst 1, 1) := by decide +kernel
theorem dX6_readSayingOf_75 : decode cX6_readSayingOf 75 = .ok (.iaload, 1) := by decide +kernel
theorem dX6_readSayingOf_76 : decode cX6_readSayingOf 76 = .ok (.aload_n 0, 1) := by decide +kernel
theorem dX6_readSayingOf_77 : decode cX6_readSayingOf 77 = .ok (.getfield 25, 3) := by decide +kernel
theorem dX6_readSayingOf_80 : decode cX6_readSayingOf 80 = .ok (.iconst 2, 1) := by decide +kernel
theorem dX6_readSayingOf_81 : decode cX6_readSayingOf 81 = .ok (.iaload, 1) := by decide +kernel
theorem dX6_readSayingOf_82 : decode cX6_readSayingOf 82 = .ok (.aload_n 0, 1) := by decide +kernel
theorem dX6_readSayingOf_83 : decode cX6_readSayingOf 83 = .ok (.getfield 25, 3) := by decide +kernel
theorem dX6_readSayingOf_86 : decode cX6_readSayingOf 86 = .ok (.iconst 3, 1) := by decide +kernel
theorem dX6_readSayingOf_87 : decode cX6_readSayingOf 87 = .ok (.iaload, 1) := by decide +kernel
theorem dX6_readSayingOf_88 : decode cX6_readSayingOf 88 = .ok (.invokevirtual 49, 3) := by decide +kernel
theorem dX6_readSayingOf_91 : decode cX6_readSayingOf 91 = .ok (.iconst 1, 1) := by decide +kernel
theorem dX6_readSayingOf_92 : decode cX6_readSayingOf 92 = .ok (.ireturn, 1) := by decide +kernel
set_option maxRecDepth 20000 in
theorem ggX6_readTermOf_X6_readNumbers : GoodIn wsX6_readTermOf wsX6_readNumbers := goodIn_r _ [7, 8, 1, 9, 10, 11, 6, 12, 13, 14, 15, 16, 17, 18, 19, 20, 25, 26, 27, 28, 29, 30, 31, 32, 33, 34, 35, 36, 37, 38, 39, 40, 41, 42, 43, 44, 45] (by decide +kernel) (by decide +kernel)
set_option maxRecDepth 20000 in
theorem gX6_readTermOf_X6_readNumbers : GoodIn wsX6_readTermOf (wsV RX6 82 RX6 yX6_readNumbers wsX6_readNumbers) := goodIn_app (goodIn_of _ (by decide +kernel)) ggX6_readTermOf_X6_readNumbers
set_option maxRecDepth 20000 in
theorem ggX6_readTermOf_X6_isTold : GoodIn wsX6_readTermOf wsX6_isTold := goodIn_r _ [24, 1, 18, 19, 6, 20, 25, 26, 27, 28, 29, 30, 31, 32, 33, 34, 35, 36, 37, 38, 39, 40, 41, 42, 43, 44, 45] (by decide +kernel) (by decide +kernel)
set_option maxRecDepth 20000 in
theorem gX6_readTermOf_X6_isTold : GoodIn wsX6_readTermOf (wsV RX6 85 RX6 yX6_isTold wsX6_isTold) := goodIn_app (goodIn_of _ (by decide +kernel)) ggX6_readTermOf_X6_isTold
theorem dX6_readTermOf_0 : decode cX6_readTermOf 0 = .ok (.aload_n 0, 1) := by decide +kernel
theorem dX6_readTermOf_1 : decode cX6_readTermOf 1 = .ok (.iconst 1, 1) := by decide +kernel
theorem dX6_readTermOf_2 : decode cX6_readTermOf 2 = .ok (.invokevirtual 82, 3) := by decide +kernel
theorem dX6_readTermOf_5 : decode cX6_readTermOf 5 = .ok (.ifCond .eq 14, 3) := by decide +kernel
theorem dX6_readTermOf_8 : decode cX6_readTermOf 8 = .ok (.aload_n 0, 1) := by decide +kernel
theorem dX6_readTermOf_9 : decode cX6_readTermOf 9 = .ok (.iconst 0, 1) := by decide +kernel
theorem dX6_readTermOf_10 : decode cX6_readTermOf 10 = .ok (.iconst 1, 1) := by decide +kernel
theorem dX6_readTermOf_11 : decode cX6_readTermOf 11 = .ok (.bipush 20, 2) := by decide +kernel
theorem dX6_readTermOf_13 : decode cX6_readTermOf 13 = .ok (.invokevirtual 85, 3) := by decide +kernel
theorem dX6_readTermOf_16 : decode cX6_readTermOf 16 = .ok (.ifCond .ne 5, 3) := by decide +kernel
theorem dX6_readTermOf_19 : decode cX6_readTermOf 19 = .ok (.iconst 0, 1) := by decide +kernel
theorem dX6_readTermOf_20 : decode cX6_readTermOf 20 = .ok (.ireturn, 1) := by decide +kernel
theorem dX6_readTermOf_21 : decode cX6_readTermOf 21 = .ok (.aload_n 0, 1) := by decide +kernel
theorem dX6_readTermOf_22 : decode cX6_readTermOf 22 = .ok (.aload_n 0, 1) := by decide +kernel
theorem dX6_readTermOf_23 : decode cX6_readTermOf 23 = .ok (.getfield 25, 3) := by decide +kernel
theorem dX6_readTermOf_26 : decode cX6_readTermOf 26 = .ok (.iconst 0, 1) := by decide +kernel
theorem dX6_readTermOf_27 : decode cX6_readTermOf 27 = .ok (.iaload, 1) := by decide +kernel
theorem dX6_readTermOf_28 : decode cX6_readTermOf 28 = .ok (.putfield 53, 3) := by decide +kernel
theorem dX6_readTermOf_31 : decode cX6_readTermOf 31 = .ok (.iconst 1, 1) := by decide +kernel
theorem dX6_readTermOf_32 : decode cX6_readTermOf 32 = .ok (.ireturn, 1) := by decide +kernel
set_option maxRecDepth 20000 in
theorem ggX6_readItem_X6_letterAt : GoodIn wsX6_readItem wsX6_letterAt := goodIn_r _ [6, 7, 8, 45, 46, 47, 48, 49, 50, 51, 52, 53, 54, 55, 56, 57, 58, 59, 60, 61, 62, 63, 64, 65] (by decide +kernel) (by decide +kernel)
set_option maxRecDepth 20000 in
theorem gX6_readItem_X6_letterAt : GoodIn wsX6_readItem (wsV RX6 74 RX6 yX6_letterAt wsX6_letterAt) := goodIn_app (goodIn_of _ (by decide +kernel)) ggX6_readItem_X6_letterAt
set_option maxRecDepth 20000 in
theorem ggX6_readItem_X6_readFactOf : GoodIn wsX6_readItem wsX6_readFactOf := goodIn_r _ [12, 13, 14, 15, 16, 17, 5, 18, 1, 2, 3, 4, 6, 7, 8, 19, 20, 21, 22, 23, 24, 25, 26, 27, 28, 45, 46, 47, 48, 49, 50, 51, 52, 53, 54, 55, 56, 57, 58, 59, 60, 61, 62, 63, 64, 65] (by decide +kernel) (by decide +kernel)
set_option maxRecDepth 20000 in
theorem gX6_readItem_X6_readFactOf : GoodIn wsX6_readItem (wsV RX6 88 RX6 yX6_readFactOf wsX6_readFactOf) := goodIn_app (goodIn_of _ (by decide +kernel)) ggX6_readItem_X6_readFactOf
set_option maxRecDepth 20000 in
theorem ggX6_readItem_X6_readSayingOf : GoodIn wsX6_readItem wsX6_readSayingOf := goodIn_r _ [32, 13, 14, 15, 16, 17, 5, 18, 1, 2, 3, 4, 6, 7, 8, 19, 20, 21, 22, 23, 24, 25, 26, 27, 28, 33, 34, 35, 36, 37, 38, 39, 45, 46, 47, 48, 49, 50, 51, 52, 53, 54, 55, 56, 57, 58, 59, 60, 61, 62, 63, 64, 65] (by decide +kernel) (by decide +kernel)
set_option maxRecDepth 20000 in
theorem gX6_readItem_X6_readSayingOf : GoodIn wsX6_readItem (wsV RX6 92 RX6 yX6_readSayingOf wsX6_readSayingOf) := goodIn_app (goodIn_of _ (by decide +kernel)) ggX6_readItem_X6_readSayingOf
set_option maxRecDepth 20000 in
theorem ggX6_readItem_X6_readTermOf : GoodIn wsX6_readItem wsX6_readTermOf := goodIn_r _ [43, 14, 44, 15, 16, 17, 5, 18, 1, 2, 3, 4, 6, 7, 8, 19, 20, 21, 22, 23, 24, 25, 26, 27, 28, 45, 46, 47, 48, 49, 50, 51, 52, 53, 54, 55, 56, 57, 58, 59, 60, 61, 62, 63, 64, 65] (by decide +kernel) (by decide +kernel)
set_option maxRecDepth 20000 in
theorem gX6_readItem_X6_readTermOf : GoodIn wsX6_readItem (wsV RX6 95 RX6 yX6_readTermOf wsX6_readTermOf) := goodIn_app (goodIn_of _ (by decide +kernel)) ggX6_readItem_X6_readTermOf
theorem dX6_readItem_0 : decode cX6_readItem 0 = .ok (.aload_n 0, 1) := by decide +kernel
theorem dX6_readItem_1 : decode cX6_readItem 1 = .ok (.aload_n 0, 1) := by decide +kernel
theorem dX6_readItem_2 : decode cX6_readItem 2 = .ok (.getfield 71, 3) := by decide +kernel
theorem dX6_readItem_5 : decode cX6_readItem 5 = .ok (.invokevirtual 74, 3) := by decide +kernel
theorem dX6_readItem_8 : decode cX6_readItem 8 = .ok (.istore_n 1, 1) := by decide +kernel
theorem dX6_readItem_9 : decode cX6_readItem 9 = .ok (.aload_n 0, 1) := by decide +kernel
theorem dX6_readItem_10 : decode cX6_readItem 10 = .ok (.dup, 1) := by decide +kernel
theorem dX6_readItem_11 : decode cX6_readItem 11 = .ok (.getfield 71, 3) := by decide +kernel
theorem dX6_readItem_14 : decode cX6_readItem 14 = .ok (.iconst 1, 1) := by decide +kernel
theorem dX6_readItem_15 : decode cX6_readItem 15 = .ok (.iadd, 1) := by decide +kernel
theorem dX6_readItem_16 : decode cX6_readItem 16 = .ok (.putfield 71, 3) := by decide +kernel
theorem dX6_readItem_19 : decode cX6_readItem 19 = .ok (.iload_n 1, 1) := by decide +kernel
theorem dX6_readItem_20 : decode cX6_readItem 20 = .ok (.lookupswitch 51 #[(102, 36), (114, 46), (115, 41)], 36) := by decide +kernel
theorem dX6_readItem_56 : decode cX6_readItem 56 = .ok (.aload_n 0, 1) := by decide +kernel
theorem dX6_readItem_57 : decode cX6_readItem 57 = .ok (.invokevirtual 88, 3) := by decide +kernel
theorem dX6_readItem_60 : decode cX6_readItem 60 = .ok (.ireturn, 1) := by decide +kernel
theorem dX6_readItem_61 : decode cX6_readItem 61 = .ok (.aload_n 0, 1) := by decide +kernel
theorem dX6_readItem_62 : decode cX6_readItem 62 = .ok (.invokevirtual 92, 3) := by decide +kernel
theorem dX6_readItem_65 : decode cX6_readItem 65 = .ok (.ireturn, 1) := by decide +kernel
theorem dX6_readItem_66 : decode cX6_readItem 66 = .ok (.aload_n 0, 1) := by decide +kernel
theorem dX6_readItem_67 : decode cX6_readItem 67 = .ok (.invokevirtual 95, 3) := by decide +kernel
theorem dX6_readItem_70 : decode cX6_readItem 70 = .ok (.ireturn, 1) := by decide +kernel
theorem dX6_readItem_71 : decode cX6_readItem 71 = .ok (.iconst 0, 1) := by decide +kernel
theorem dX6_readItem_72 : decode cX6_readItem 72 = .ok (.ireturn, 1) := by decide +kernel
set_option maxRecDepth 20000 in
theorem ggX6_fault_X6_clearTold : GoodIn wsX6_fault wsX6_clearTold := goodIn_r _ [7, 8, 9, 53, 54, 55, 56, 57, 58, 59, 60, 61, 62, 63, 64, 65, 66, 67, 68, 69, 70, 71, 72, 73] (by decide +kernel) (by decide +kernel)
set_option maxRecDepth 20000 in
theorem gX6_fault_X6_clearTold : GoodIn wsX6_fault (wsV RX6 46 RX6 yX6_clearTold wsX6_clearTold) := goodIn_app (goodIn_of _ (by decide +kernel)) ggX6_fault_X6_clearTold
set_option maxRecDepth 20000 in
theorem ggX6_fault_X6_readItem : GoodIn wsX6_fault wsX6_readItem := goodIn_r _ [13, 1, 14, 15, 16, 6, 17, 2, 18, 19, 20, 21, 22, 8, 23, 24, 25, 26, 27, 28, 29, 30, 31, 32, 33, 34, 35, 36, 37, 38, 39, 40, 41, 42, 43, 44, 45, 46, 47, 48, 49, 50, 51, 52, 9, 53, 54, 55, 56, 57, 58, 59, 60, 61, 62, 63, 64, 65, 66, 67, 68, 69, 70, 71, 72, 73] (by decide +kernel) (by decide +kernel)
set_option maxRecDepth 20000 in
theorem gX6_fault_X6_readItem : GoodIn wsX6_fault (wsV RX6 98 RX6 yX6_readItem wsX6_readItem) := goodIn_app (goodIn_of _ (by decide +kernel)) ggX6_fault_X6_readItem
theorem dX6_fault_0 : decode cX6_fault 0 = .ok (.aload_n 0, 1) := by decide +kernel
theorem dX6_fault_1 : decode cX6_fault 1 = .ok (.iconst 0, 1) := by decide +kernel
theorem dX6_fault_2 : decode cX6_fault 2 = .ok (.putfield 71, 3) := by decide +kernel
theorem dX6_fault_5 : decode cX6_fault 5 = .ok (.aload_n 0, 1) := by decide +kernel
theorem dX6_fault_6 : decode cX6_fault 6 = .ok (.invokevirtual 46, 3) := by decide +kernel
theorem dX6_fault_9 : decode cX6_fault 9 = .ok (.aload_n 0, 1) := by decide +kernel
theorem dX6_fault_10 : decode cX6_fault 10 = .ok (.getfield 71, 3) := by decide +kernel
theorem dX6_fault_13 : decode cX6_fault 13 = .ok (.aload_n 0, 1) := by decide +kernel
theorem dX6_fault_14 : decode cX6_fault 14 = .ok (.getfield 68, 3) := by decide +kernel
theorem dX6_fault_17 : decode cX6_fault 17 = .ok (.if_icmp .ge 20, 3) := by decide +kernel
theorem dX6_fault_20 : decode cX6_fault 20 = .ok (.aload_n 0, 1) := by decide +kernel
theorem dX6_fault_21 : decode cX6_fault 21 = .ok (.getfield 71, 3) := by decide +kernel
theorem dX6_fault_24 : decode cX6_fault 24 = .ok (.istore_n 1, 1) := by decide +kernel
theorem dX6_fault_25 : decode cX6_fault 25 = .ok (.aload_n 0, 1) := by decide +kernel
theorem dX6_fault_26 : decode cX6_fault 26 = .ok (.invokevirtual 98, 3) := by decide +kernel
theorem dX6_fault_29 : decode cX6_fault 29 = .ok (.ifCond .ne 5, 3) := by decide +kernel
theorem dX6_fault_32 : decode cX6_fault 32 = .ok (.iload_n 1, 1) := by decide +kernel
theorem dX6_fault_33 : decode cX6_fault 33 = .ok (.ireturn, 1) := by decide +kernel
theorem dX6_fault_34 : decode cX6_fault 34 = .ok (.goto (-25), 3) := by decide +kernel
theorem dX6_fault_37 : decode cX6_fault 37 = .ok (.bipush (-4), 2) := by decide +kernel
theorem dX6_fault_39 : decode cX6_fault 39 = .ok (.ireturn, 1) := by decide +kernel
set_option maxRecDepth 20000 in
theorem ggX6_lay_X6_fault : GoodIn wsX6_lay wsX6_fault := goodIn_r _ [7, 8, 9, 10, 11, 12, 6, 13, 1, 14, 15, 16, 17, 18, 19, 20, 21, 22, 23, 24, 25, 26, 27, 28, 29, 30, 31, 32, 33, 34, 35, 36, 37, 38, 39, 40, 41, 42, 43, 44, 45, 46, 47, 48, 49, 50, 51, 52, 53, 54, 55, 56, 57, 88, 89, 90, 91, 92, 93, 94, 95, 96, 97, 98, 99, 100, 101, 102, 103, 104, 105, 106, 107, 108] (by decide +kernel) (by decide +kernel)
set_option maxRecDepth 20000 in
theorem gX6_lay_X6_fault : GoodIn wsX6_lay (wsV RX6 101 RX6 yX6_fault wsX6_fault) := goodIn_app (goodIn_of _ (by decide +kernel)) ggX6_lay_X6_fault
set_option maxRecDepth 20000 in
theorem ggX6_lay_X6_settles : GoodIn wsX6_lay wsX6_settles := goodIn_r _ [61, 14, 62, 63, 1, 2, 64, 65, 66, 67, 68, 6, 69, 70, 71, 72, 73, 74, 75, 76, 77, 78, 79, 80, 81, 82, 83, 84, 85, 86, 87, 88, 89, 90, 91, 92, 93, 94, 95, 96, 97, 98, 99, 100, 101, 102, 103, 104, 105, 106, 107, 108] (by decide +kernel) (by decide +kernel)
set_option maxRecDepth 20000 in
theorem gX6_lay_X6_settles : GoodIn wsX6_lay (wsV RX6 57 RX6 yX6_settles wsX6_settles) := goodIn_app (goodIn_of _ (by decide +kernel)) ggX6_lay_X6_settles
theorem dX6_lay_0 : decode cX6_lay 0 = .ok (.aload_n 0, 1) := by decide +kernel
theorem dX6_lay_1 : decode cX6_lay 1 = .ok (.invokevirtual 101, 3) := by decide +kernel
theorem dX6_lay_4 : decode cX6_lay 4 = .ok (.bipush (-4), 2) := by decide +kernel
theorem dX6_lay_6 : decode cX6_lay 6 = .ok (.if_icmp .ne 12, 3) := by decide +kernel
theorem dX6_lay_9 : decode cX6_lay 9 = .ok (.aload_n 0, 1) := by decide +kernel
theorem dX6_lay_10 : decode cX6_lay 10 = .ok (.getfield 28, 3) := by decide +kernel
theorem dX6_lay_13 : decode cX6_lay 13 = .ok (.iconst 2, 1) := by decide +kernel
theorem dX6_lay_14 : decode cX6_lay 14 = .ok (.iaload, 1) := by decide +kernel
theorem dX6_lay_15 : decode cX6_lay 15 = .ok (.ifCond .ne 6, 3) := by decide +kernel
theorem dX6_lay_18 : decode cX6_lay 18 = .ok (.bipush (-2), 2) := by decide +kernel
theorem dX6_lay_20 : decode cX6_lay 20 = .ok (.ireturn, 1) := by decide +kernel
theorem dX6_lay_21 : decode cX6_lay 21 = .ok (.aload_n 0, 1) := by decide +kernel
theorem dX6_lay_22 : decode cX6_lay 22 = .ok (.invokevirtual 57, 3) := by decide +kernel
theorem dX6_lay_25 : decode cX6_lay 25 = .ok (.aload_n 0, 1) := by decide +kernel
theorem dX6_lay_26 : decode cX6_lay 26 = .ok (.getfield 7, 3) := by decide +kernel
theorem dX6_lay_29 : decode cX6_lay 29 = .ok (.iconst 2, 1) := by decide +kernel
theorem dX6_lay_30 : decode cX6_lay 30 = .ok (.iaload, 1) := by decide +kernel
theorem dX6_lay_31 : decode cX6_lay 31 = .ok (.ireturn, 1) := by decide +kernel
theorem dX6_copies_0 : decode cX6_copies 0 = .ok (.iconst 0, 1) := by decide +kernel
theorem dX6_copies_1 : decode cX6_copies 1 = .ok (.istore 4, 2) := by decide +kernel
theorem dX6_copies_3 : decode cX6_copies 3 = .ok (.iload 4, 2) := by decide +kernel
theorem dX6_copies_5 : decode cX6_copies 5 = .ok (.bipush 49, 2) := by decide +kernel
theorem dX6_copies_7 : decode cX6_copies 7 = .ok (.if_icmp .ge 21, 3) := by decide +kernel
theorem dX6_copies_10 : decode cX6_copies 10 = .ok (.aload_n 0, 1) := by decide +kernel
theorem dX6_copies_11 : decode cX6_copies 11 = .ok (.iload_n 1, 1) := by decide +kernel
theorem dX6_copies_12 : decode cX6_copies 12 = .ok (.iload 4, 2) := by decide +kernel
theorem dX6_copies_14 : decode cX6_copies 14 = .ok (.iadd, 1) := by decide +kernel
theorem dX6_copies_15 : decode cX6_copies 15 = .ok (.aload_n 2, 1) := by decide +kernel
theorem dX6_copies_16 : decode cX6_copies 16 = .ok (.iload_n 3, 1) := by decide +kernel
theorem dX6_copies_17 : decode cX6_copies 17 = .ok (.iload 4, 2) := by decide +kernel
theorem dX6_copies_19 : decode cX6_copies 19 = .ok (.iadd, 1) := by decide +kernel
theorem dX6_copies_20 : decode cX6_copies 20 = .ok (.iaload, 1) := by decide +kernel
theorem dX6_copies_21 : decode cX6_copies 21 = .ok (.iastore, 1) := by decide +kernel
theorem dX6_copies_22 : decode cX6_copies 22 = .ok (.iinc 4 1, 3) := by decide +kernel
theorem dX6_copies_25 : decode cX6_copies 25 = .ok (.goto (-22), 3) := by decide +kernel
theorem dX6_copies_28 : decode cX6_copies 28 = .ok (.return_, 1) := by decide +kernel
set_option maxRecDepth 20000 in
theorem ggX6_settles_X6_copies : GoodIn wsX6_settles wsX6_copies := goodIn_r _ [12] (by decide +kernel) (by decide +kernel)
set_option maxRecDepth 20000 in
theorem gX6_settles_X6_copies : GoodIn wsX6_settles (va_wsS RX6 108 yX6_copies wsX6_copies) := goodIn_app (goodIn_of _ (by decide +kernel)) ggX6_settles_X6_copies
set_option maxRecDepth 20000 in
theorem ggX6_settles_X6_appoints : GoodIn wsX6_settles wsX6_appoints := goodIn_r _ [16, 3, 17, 18, 19, 11, 20, 21, 22, 23, 24, 25, 26, 27, 28, 29, 30, 31, 32, 33, 34, 35, 36, 37, 38, 39, 40, 41, 42, 43, 44, 45, 46, 47, 48, 49, 50, 51] (by decide +kernel) (by decide +kernel)
set_option maxRecDepth 20000 in
theorem gX6_settles_X6_appoints : GoodIn wsX6_settles (wsV RX6 112 RX6 yX6_appoints wsX6_appoints) := goodIn_app (goodIn_of _ (by decide +kernel)) ggX6_settles_X6_appoints
theorem dX6_settles_0 : decode cX6_settles 0 = .ok (.aload_n 0, 1) := by decide +kernel
theorem dX6_settles_1 : decode cX6_settles 1 = .ok (.aload_n 0, 1) := by decide +kernel
theorem dX6_settles_2 : decode cX6_settles 2 = .ok (.getfield 53, 3) := by decide +kernel
theorem dX6_settles_5 : decode cX6_settles 5 = .ok (.putfield 105, 3) := by decide +kernel
theorem dX6_settles_8 : decode cX6_settles 8 = .ok (.aload_n 0, 1) := by decide +kernel
theorem dX6_settles_9 : decode cX6_settles 9 = .ok (.getfield 31, 3) := by decide +kernel
theorem dX6_settles_12 : decode cX6_settles 12 = .ok (.iconst 0, 1) := by decide +kernel
theorem dX6_settles_13 : decode cX6_settles 13 = .ok (.aload_n 0, 1) := by decide +kernel
theorem dX6_settles_14 : decode cX6_settles 14 = .ok (.getfield 28, 3) := by decide +kernel
theorem dX6_settles_17 : decode cX6_settles 17 = .ok (.iconst 0, 1) := by decide +kernel
theorem dX6_settles_18 : decode cX6_settles 18 = .ok (.invokestatic 108, 3) := by decide +kernel
theorem dX6_settles_21 : decode cX6_settles 21 = .ok (.aload_n 0, 1) := by decide +kernel
theorem dX6_settles_22 : decode cX6_settles 22 = .ok (.invokevirtual 112, 3) := by decide +kernel
theorem dX6_settles_25 : decode cX6_settles 25 = .ok (.aload_n 0, 1) := by decide +kernel
theorem dX6_settles_26 : decode cX6_settles 26 = .ok (.getfield 7, 3) := by decide +kernel
theorem dX6_settles_29 : decode cX6_settles 29 = .ok (.iconst 0, 1) := by decide +kernel
theorem dX6_settles_30 : decode cX6_settles 30 = .ok (.aload_n 0, 1) := by decide +kernel
theorem dX6_settles_31 : decode cX6_settles 31 = .ok (.getfield 31, 3) := by decide +kernel
theorem dX6_settles_34 : decode cX6_settles 34 = .ok (.iconst 0, 1) := by decide +kernel
theorem dX6_settles_35 : decode cX6_settles 35 = .ok (.invokestatic 108, 3) := by decide +kernel
theorem dX6_settles_38 : decode cX6_settles 38 = .ok (.aload_n 0, 1) := by decide +kernel
theorem dX6_settles_39 : decode cX6_settles 39 = .ok (.iconst 0, 1) := by decide +kernel
theorem dX6_settles_40 : decode cX6_settles 40 = .ok (.putfield 115, 3) := by decide +kernel
theorem dX6_settles_43 : decode cX6_settles 43 = .ok (.aload_n 0, 1) := by decide +kernel
theorem dX6_settles_44 : decode cX6_settles 44 = .ok (.iconst 0, 1) := by decide +kernel
theorem dX6_settles_45 : decode cX6_settles 45 = .ok (.putfield 118, 3) := by decide +kernel
theorem dX6_settles_48 : decode cX6_settles 48 = .ok (.aload_n 0, 1) := by decide +kernel
theorem dX6_settles_49 : decode cX6_settles 49 = .ok (.iconst 0, 1) := by decide +kernel
theorem dX6_settles_50 : decode cX6_settles 50 = .ok (.putfield 121, 3) := by decide +kernel
theorem dX6_settles_53 : decode cX6_settles 53 = .ok (.return_, 1) := by decide +kernel
set_option maxRecDepth 20000 in
theorem ggX6_asItIs_X6_copies : GoodIn wsX6_asItIs wsX6_copies := goodIn_r _ [6] (by decide +kernel) (by decide +kernel)
set_option maxRecDepth 20000 in
theorem gX6_asItIs_X6_copies : GoodIn wsX6_asItIs (va_wsS RX6 108 yX6_copies wsX6_copies) := goodIn_app (goodIn_of _ (by decide +kernel)) ggX6_asItIs_X6_copies
theorem dX6_asItIs_0 : decode cX6_asItIs 0 = .ok (.aload_n 0, 1) := by decide +kernel
theorem dX6_asItIs_1 : decode cX6_asItIs 1 = .ok (.getfield 31, 3) := by decide +kernel
theorem dX6_asItIs_4 : decode cX6_asItIs 4 = .ok (.iconst 0, 1) := by decide +kernel
theorem dX6_asItIs_5 : decode cX6_asItIs 5 = .ok (.aload_n 0, 1) := by decide +kernel
theorem dX6_asItIs_6 : decode cX6_asItIs 6 = .ok (.getfield 7, 3) := by decide +kernel
theorem dX6_asItIs_9 : decode cX6_asItIs 9 = .ok (.iconst 0, 1) := by decide +kernel
theorem dX6_asItIs_10 : decode cX6_asItIs 10 = .ok (.invokestatic 108, 3) := by decide +kernel
theorem dX6_asItIs_13 : decode cX6_asItIs 13 = .ok (.return_, 1) := by decide +kernel
set_option maxRecDepth 20000 in
theorem ggX6_isTrue_X6_has : GoodIn wsX6_isTrue wsX6_has := goodIn_r _ [4] (by decide +kernel) (by decide +kernel)
set_option maxRecDepth 20000 in
theorem gX6_isTrue_X6_has : GoodIn wsX6_isTrue (va_wsS RX6 124 yX6_has wsX6_has) := goodIn_app (goodIn_of _ (by decide +kernel)) ggX6_isTrue_X6_has
theorem dX6_isTrue_0 : decode cX6_isTrue 0 = .ok (.iload_n 0, 1) := by decide +kernel
theorem dX6_isTrue_1 : decode cX6_isTrue 1 = .ok (.bipush 6, 2) := by decide +kernel
theorem dX6_isTrue_3 : decode cX6_isTrue 3 = .ok (.if_icmp .ge 7, 3) := by decide +kernel
theorem dX6_isTrue_6 : decode cX6_isTrue 6 = .ok (.iconst 1, 1) := by decide +kernel
theorem dX6_isTrue_7 : decode cX6_isTrue 7 = .ok (.goto 4, 3) := by decide +kernel
theorem dX6_isTrue_10 : decode cX6_isTrue 10 = .ok (.iconst 0, 1) := by decide +kernel
theorem dX6_isTrue_11 : decode cX6_isTrue 11 = .ok (.iload_n 1, 1) := by decide +kernel
theorem dX6_isTrue_12 : decode cX6_isTrue 12 = .ok (.iload_n 0, 1) := by decide +kernel
theorem dX6_isTrue_13 : decode cX6_isTrue 13 = .ok (.bipush 6, 2) := by decide +kernel
theorem dX6_isTrue_15 : decode cX6_isTrue 15 = .ok (.irem, 1) := by decide +kernel
theorem dX6_isTrue_16 : decode cX6_isTrue 16 = .ok (.invokestatic 124, 3) := by decide +kernel
theorem dX6_isTrue_19 : decode cX6_isTrue 19 = .ok (.if_icmp .ne 7, 3) := by decide +kernel
theorem dX6_isTrue_22 : decode cX6_isTrue 22 = .ok (.iconst 1, 1) := by decide +kernel
theorem dX6_isTrue_23 : decode cX6_isTrue 23 = .ok (.goto 4, 3) := by decide +kernel
theorem dX6_isTrue_26 : decode cX6_isTrue 26 = .ok (.iconst 0, 1) := by decide +kernel
theorem dX6_isTrue_27 : decode cX6_isTrue 27 = .ok (.ireturn, 1) := by decide +kernel
set_option maxRecDepth 20000 in
theorem ggX6_isSo_X6_isTrue : GoodIn wsX6_isSo wsX6_isTrue := goodIn_r _ [5, 6, 7, 4, 8] (by decide +kernel) (by decide +kernel)
set_option maxRecDepth 20000 in
theorem gX6_isSo_X6_isTrue : GoodIn wsX6_isSo (va_wsS RX6 128 yX6_isTrue wsX6_isTrue) := goodIn_app (goodIn_of _ (by decide +kernel)) ggX6_isSo_X6_isTrue
theorem dX6_isSo_0 : decode cX6_isSo 0 = .ok (.iconst 4, 1) := by decide +kernel
theorem dX6_isSo_1 : decode cX6_isSo 1 = .ok (.iconst 4, 1) := by decide +kernel
theorem dX6_isSo_2 : decode cX6_isSo 2 = .ok (.iload_n 1, 1) := by decide +kernel
theorem dX6_isSo_3 : decode cX6_isSo 3 = .ok (.imul, 1) := by decide +kernel
theorem dX6_isSo_4 : decode cX6_isSo 4 = .ok (.iadd, 1) := by decide +kernel
theorem dX6_isSo_5 : decode cX6_isSo 5 = .ok (.istore_n 3, 1) := by decide +kernel
theorem dX6_isSo_6 : decode cX6_isSo 6 = .ok (.aload_n 0, 1) := by decide +kernel
theorem dX6_isSo_7 : decode cX6_isSo 7 = .ok (.getfield 31, 3) := by decide +kernel
theorem dX6_isSo_10 : decode cX6_isSo 10 = .ok (.iload_n 3, 1) := by decide +kernel
theorem dX6_isSo_11 : decode cX6_isSo 11 = .ok (.iconst 1, 1) := by decide +kernel
theorem dX6_isSo_12 : decode cX6_isSo 12 = .ok (.iadd, 1) := by decide +kernel
theorem dX6_isSo_13 : decode cX6_isSo 13 = .ok (.iaload, 1) := by decide +kernel
theorem dX6_isSo_14 : decode cX6_isSo 14 = .ok (.iload_n 2, 1) := by decide +kernel
theorem dX6_isSo_15 : decode cX6_isSo 15 = .ok (.invokestatic 128, 3) := by decide +kernel
theorem dX6_isSo_18 : decode cX6_isSo 18 = .ok (.istore 4, 2) := by decide +kernel
theorem dX6_isSo_20 : decode cX6_isSo 20 = .ok (.aload_n 0, 1) := by decide +kernel
theorem dX6_isSo_21 : decode cX6_isSo 21 = .ok (.getfield 31, 3) := by decide +kernel
theorem dX6_isSo_24 : decode cX6_isSo 24 = .ok (.iload_n 3, 1) := by decide +kernel
theorem dX6_isSo_25 : decode cX6_isSo 25 = .ok (.iaload, 1) := by decide +kernel
theorem dX6_isSo_26 : decode cX6_isSo 26 = .ok (.ifCond .eq 22, 3) := by decide +kernel
theorem dX6_isSo_29 : decode cX6_isSo 29 = .ok (.aload_n 0, 1) := by decide +kernel
theorem dX6_isSo_30 : decode cX6_isSo 30 = .ok (.getfield 31, 3) := by decide +kernel
theorem dX6_isSo_33 : decode cX6_isSo 33 = .ok (.iload_n 3, 1) := by decide +kernel
theorem dX6_isSo_34 : decode cX6_isSo 34 = .ok (.iconst 2, 1) := by decide +kernel
theorem dX6_isSo_35 : decode cX6_isSo 35 = .ok (.iadd, 1) := by decide +kernel
theorem dX6_isSo_36 : decode cX6_isSo 36 = .ok (.iaload, 1) := by decide +kernel
theorem dX6_isSo_37 : decode cX6_isSo 37 = .ok (.iload_n 2, 1) := by decide +kernel
theorem dX6_isSo_38 : decode cX6_isSo 38 = .ok (.invokestatic 128, 3) := by decide +kernel
theorem dX6_isSo_41 : decode cX6_isSo 41 = .ok (.ifCond .eq 7, 3) := by decide +kernel
theorem dX6_isSo_44 : decode cX6_isSo 44 = .ok (.iconst 1, 1) := by decide +kernel
theorem dX6_isSo_45 : decode cX6_isSo 45 = .ok (.goto 4, 3) := by decide +kernel
theorem dX6_isSo_48 : decode cX6_isSo 48 = .ok (.iconst 0, 1) := by decide +kernel
theorem dX6_isSo_49 : decode cX6_isSo 49 = .ok (.istore 5, 2) := by decide +kernel
theorem dX6_isSo_51 : decode cX6_isSo 51 = .ok (.aload_n 0, 1) := by decide +kernel
theorem dX6_isSo_52 : decode cX6_isSo 52 = .ok (.getfield 31, 3) := by decide +kernel
theorem dX6_isSo_55 : decode cX6_isSo 55 = .ok (.iload_n 3, 1) := by decide +kernel
theorem dX6_isSo_56 : decode cX6_isSo 56 = .ok (.iaload, 1) := by decide +kernel
theorem dX6_isSo_57 : decode cX6_isSo 57 = .ok (.tableswitch 92 1 4 #[31, 47, 63, 79], 31) := by decide +kernel
theorem dX6_isSo_88 : decode cX6_isSo 88 = .ok (.iload 4, 2) := by decide +kernel
theorem dX6_isSo_90 : decode cX6_isSo 90 = .ok (.ifCond .eq 12, 3) := by decide +kernel
theorem dX6_isSo_93 : decode cX6_isSo 93 = .ok (.iload 5, 2) := by decide +kernel
theorem dX6_isSo_95 : decode cX6_isSo 95 = .ok (.ifCond .eq 7, 3) := by decide +kernel
theorem dX6_isSo_98 : decode cX6_isSo 98 = .ok (.iconst 1, 1) := by decide +kernel
theorem dX6_isSo_99 : decode cX6_isSo 99 = .ok (.goto 4, 3) := by decide +kernel
theorem dX6_isSo_102 : decode cX6_isSo 102 = .ok (.iconst 0, 1) := by decide +kernel
theorem dX6_isSo_103 : decode cX6_isSo 103 = .ok (.ireturn, 1) := by decide +kernel
theorem dX6_isSo_104 : decode cX6_isSo 104 = .ok (.iload 4, 2) := by decide +kernel
theorem dX6_isSo_106 : decode cX6_isSo 106 = .ok (.ifCond .ne 8, 3) := by decide +kernel
theorem dX6_isSo_109 : decode cX6_isSo 109 = .ok (.iload 5, 2) := by decide +kernel
theorem dX6_isSo_111 : decode cX6_isSo 111 = .ok (.ifCond .eq 7, 3) := by decide +kernel
theorem dX6_isSo_114 : decode cX6_isSo 114 = .ok (.iconst 1, 1) := by decide +kernel
theorem dX6_isSo_115 : decode cX6_isSo 115 = .ok (.goto 4, 3) := by decide +kernel
theorem dX6_isSo_118 : decode cX6_isSo 118 = .ok (.iconst 0, 1) := by decide +kernel
theorem dX6_isSo_119 : decode cX6_isSo 119 = .ok (.ireturn, 1) := by decide +kernel
theorem dX6_isSo_120 : decode cX6_isSo 120 = .ok (.iload 4, 2) := by decide +kernel
theorem dX6_isSo_122 : decode cX6_isSo 122 = .ok (.ifCond .eq 8, 3) := by decide +kernel
theorem dX6_isSo_125 : decode cX6_isSo 125 = .ok (.iload 5, 2) := by decide +kernel
theorem dX6_isSo_127 : decode cX6_isSo 127 = .ok (.ifCond .eq 7, 3) := by decide +kernel
theorem dX6_isSo_130 : decode cX6_isSo 130 = .ok (.iconst 1, 1) := by decide +kernel
theorem dX6_isSo_131 : decode cX6_isSo 131 = .ok (.goto 4, 3) := by decide +kernel
theorem dX6_isSo_134 : decode cX6_isSo 134 = .ok (.iconst 0, 1) := by decide +kernel
theorem dX6_isSo_135 : decode cX6_isSo 135 = .ok (.ireturn, 1) := by decide +kernel
theorem dX6_isSo_136 : decode cX6_isSo 136 = .ok (.iload 4, 2) := by decide +kernel
theorem dX6_isSo_138 : decode cX6_isSo 138 = .ok (.iload 5, 2) := by decide +kernel
theorem dX6_isSo_140 : decode cX6_isSo 140 = .ok (.if_icmp .eq 7, 3) := by decide +kernel
theorem dX6_isSo_143 : decode cX6_isSo 143 = .ok (.iconst 1, 1) := by decide +kernel
theorem dX6_isSo_144 : decode cX6_isSo 144 = .ok (.goto 4, 3) := by decide +kernel
theorem dX6_isSo_147 : decode cX6_isSo 147 = .ok (.iconst 0, 1) := by decide +kernel
theorem dX6_isSo_148 : decode cX6_isSo 148 = .ok (.ireturn, 1) := by decide +kernel
theorem dX6_isSo_149 : decode cX6_isSo 149 = .ok (.iload 4, 2) := by decide +kernel
theorem dX6_isSo_151 : decode cX6_isSo 151 = .ok (.ireturn, 1) := by decide +kernel
set_option maxRecDepth 20000 in
theorem ggX6_policeIn_X6_has : GoodIn wsX6_policeIn wsX6_has := goodIn_r _ [5] (by decide +kernel) (by decide +kernel)
set_option maxRecDepth 20000 in
theorem gX6_policeIn_X6_has : GoodIn wsX6_policeIn (va_wsS RX6 124 yX6_has wsX6_has) := goodIn_app (goodIn_of _ (by decide +kernel)) ggX6_policeIn_X6_has
set_option maxRecDepth 20000 in
theorem ggX6_policeIn_X6_isSo : GoodIn wsX6_policeIn wsX6_isSo := goodIn_r _ [9, 1, 10, 11, 4, 12, 2, 3, 5, 13, 14, 15, 16, 17, 18, 19, 20, 21, 22, 23, 24, 25, 26, 27, 28, 29, 30, 31, 32, 33] (by decide +kernel) (by decide +kernel)
set_option maxRecDepth 20000 in
theorem gX6_policeIn_X6_isSo : GoodIn wsX6_policeIn (wsV RX6 131 RX6 yX6_isSo wsX6_isSo) := goodIn_app (goodIn_of _ (by decide +kernel)) ggX6_policeIn_X6_isSo
theorem dX6_policeIn_0 : decode cX6_policeIn 0 = .ok (.iconst 0, 1) := by decide +kernel
theorem dX6_policeIn_1 : decode cX6_policeIn 1 = .ok (.istore_n 2, 1) := by decide +kernel
theorem dX6_policeIn_2 : decode cX6_policeIn 2 = .ok (.iconst 0, 1) := by decide +kernel
theorem dX6_policeIn_3 : decode cX6_policeIn 3 = .ok (.istore_n 3, 1) := by decide +kernel
theorem dX6_policeIn_4 : decode cX6_policeIn 4 = .ok (.iload_n 3, 1) := by decide +kernel
theorem dX6_policeIn_5 : decode cX6_policeIn 5 = .ok (.aload_n 0, 1) := by decide +kernel
theorem dX6_policeIn_6 : decode cX6_policeIn 6 = .ok (.getfield 31, 3) := by decide +kernel
theorem dX6_policeIn_9 : decode cX6_policeIn 9 = .ok (.iconst 2, 1) := by decide +kernel
theorem dX6_policeIn_10 : decode cX6_policeIn 10 = .ok (.iaload, 1) := by decide +kernel
theorem dX6_policeIn_11 : decode cX6_policeIn 11 = .ok (.if_icmp .ge 41, 3) := by decide +kernel
theorem dX6_policeIn_14 : decode cX6_policeIn 14 = .ok (.iload_n 2, 1) := by decide +kernel
theorem dX6_policeIn_15 : decode cX6_policeIn 15 = .ok (.aload_n 0, 1) := by decide +kernel
theorem dX6_policeIn_16 : decode cX6_policeIn 16 = .ok (.getfield 31, 3) := by decide +kernel
theorem dX6_policeIn_19 : decode cX6_policeIn 19 = .ok (.iconst 3, 1) := by decide +kernel
theorem dX6_policeIn_20 : decode cX6_policeIn 20 = .ok (.iaload, 1) := by decide +kernel
theorem dX6_policeIn_21 : decode cX6_policeIn 21 = .ok (.iload_n 3, 1) := by decide +kernel
theorem dX6_policeIn_22 : decode cX6_policeIn 22 = .ok (.invokestatic 124, 3) := by decide +kernel
theorem dX6_policeIn_25 : decode cX6_policeIn 25 = .ok (.ifCond .ne 18, 3) := by decide +kernel
theorem dX6_policeIn_28 : decode cX6_policeIn 28 = .ok (.aload_n 0, 1) := by decide +kernel
theorem dX6_policeIn_29 : decode cX6_policeIn 29 = .ok (.iload_n 3, 1) := by decide +kernel
theorem dX6_policeIn_30 : decode cX6_policeIn 30 = .ok (.iload_n 1, 1) := by decide +kernel
theorem dX6_policeIn_31 : decode cX6_policeIn 31 = .ok (.invokevirtual 131, 3) := by decide +kernel
theorem dX6_policeIn_34 : decode cX6_policeIn 34 = .ok (.ifCond .ne 9, 3) := by decide +kernel
theorem dX6_policeIn_37 : decode cX6_policeIn 37 = .ok (.iconst 1, 1) := by decide +kernel
theorem dX6_policeIn_38 : decode cX6_policeIn 38 = .ok (.iload_n 3, 1) := by decide +kernel
theorem dX6_policeIn_39 : decode cX6_policeIn 39 = .ok (.ishl, 1) := by decide +kernel
theorem dX6_policeIn_40 : decode cX6_policeIn 40 = .ok (.goto 4, 3) := by decide +kernel
theorem dX6_policeIn_43 : decode cX6_policeIn 43 = .ok (.iconst 0, 1) := by decide +kernel
theorem dX6_policeIn_44 : decode cX6_policeIn 44 = .ok (.ior, 1) := by decide +kernel
theorem dX6_policeIn_45 : decode cX6_policeIn 45 = .ok (.istore_n 2, 1) := by decide +kernel
theorem dX6_policeIn_46 : decode cX6_policeIn 46 = .ok (.iinc 3 1, 3) := by decide +kernel
theorem dX6_policeIn_49 : decode cX6_policeIn 49 = .ok (.goto (-45), 3) := by decide +kernel
theorem dX6_policeIn_52 : decode cX6_policeIn 52 = .ok (.iload_n 2, 1) := by decide +kernel
theorem dX6_policeIn_53 : decode cX6_policeIn 53 = .ok (.ireturn, 1) := by decide +kernel
theorem dX6_standing_0 : decode cX6_standing 0 = .ok (.iconst 1, 1) := by decide +kernel
theorem dX6_standing_1 : decode cX6_standing 1 = .ok (.aload_n 0, 1) := by decide +kernel
theorem dX6_standing_2 : decode cX6_standing 2 = .ok (.getfield 31, 3) := by decide +kernel
theorem dX6_standing_5 : decode cX6_standing 5 = .ok (.iconst 2, 1) := by decide +kernel
theorem dX6_standing_6 : decode cX6_standing 6 = .ok (.iaload, 1) := by decide +kernel
theorem dX6_standing_7 : decode cX6_standing 7 = .ok (.ishl, 1) := by decide +kernel
theorem dX6_standing_8 : decode cX6_standing 8 = .ok (.iconst 1, 1) := by decide +kernel
theorem dX6_standing_9 : decode cX6_standing 9 = .ok (.isub, 1) := by decide +kernel
theorem dX6_standing_10 : decode cX6_standing 10 = .ok (.aload_n 0, 1) := by decide +kernel
theorem dX6_standing_11 : decode cX6_standing 11 = .ok (.getfield 31, 3) := by decide +kernel
theorem dX6_standing_14 : decode cX6_standing 14 = .ok (.iconst 3, 1) := by decide +kernel
theorem dX6_standing_15 : decode cX6_standing 15 = .ok (.iaload, 1) := by decide +kernel
theorem dX6_standing_16 : decode cX6_standing 16 = .ok (.iconst (-1), 1) := by decide +kernel
theorem dX6_standing_17 : decode cX6_standing 17 = .ok (.ixor, 1) := by decide +kernel
theorem dX6_standing_18 : decode cX6_standing 18 = .ok (.iand, 1) := by decide +kernel
theorem dX6_standing_19 : decode cX6_standing 19 = .ok (.ireturn, 1) := by decide +kernel
set_option maxRecDepth 20000 in
theorem ggX6_appoints_X6_policeIn : GoodIn wsX6_appoints wsX6_policeIn := goodIn_r _ [6, 1, 7, 8, 5, 9, 10, 11, 12, 13, 14, 15, 16, 17, 18, 19, 20, 21, 22, 23, 24, 25, 26, 27, 28, 29, 30, 31, 32, 33, 34, 35, 36, 37] (by decide +kernel) (by decide +kernel)
set_option maxRecDepth 20000 in
theorem gX6_appoints_X6_policeIn : GoodIn wsX6_appoints (wsV RX6 134 RX6 yX6_policeIn wsX6_policeIn) := goodIn_app (goodIn_of _ (by decide +kernel)) ggX6_appoints_X6_policeIn
set_option maxRecDepth 20000 in
theorem ggX6_appoints_X6_has : GoodIn wsX6_appoints wsX6_has := goodIn_r _ [9] (by decide +kernel) (by decide +kernel)
set_option maxRecDepth 20000 in
theorem gX6_appoints_X6_has : GoodIn wsX6_appoints (va_wsS RX6 124 yX6_has wsX6_has) := goodIn_app (goodIn_of _ (by decide +kernel)) ggX6_appoints_X6_has
theorem dX6_appoints_0 : decode cX6_appoints 0 = .ok (.aload_n 0, 1) := by decide +kernel
theorem dX6_appoints_1 : decode cX6_appoints 1 = .ok (.aload_n 0, 1) := by decide +kernel
theorem dX6_appoints_2 : decode cX6_appoints 2 = .ok (.getfield 31, 3) := by decide +kernel
theorem dX6_appoints_5 : decode cX6_appoints 5 = .ok (.iconst 0, 1) := by decide +kernel
theorem dX6_appoints_6 : decode cX6_appoints 6 = .ok (.iaload, 1) := by decide +kernel
theorem dX6_appoints_7 : decode cX6_appoints 7 = .ok (.invokevirtual 134, 3) := by decide +kernel
theorem dX6_appoints_10 : decode cX6_appoints 10 = .ok (.istore_n 1, 1) := by decide +kernel
theorem dX6_appoints_11 : decode cX6_appoints 11 = .ok (.iconst 0, 1) := by decide +kernel
theorem dX6_appoints_12 : decode cX6_appoints 12 = .ok (.istore_n 2, 1) := by decide +kernel
theorem dX6_appoints_13 : decode cX6_appoints 13 = .ok (.iload_n 2, 1) := by decide +kernel
theorem dX6_appoints_14 : decode cX6_appoints 14 = .ok (.aload_n 0, 1) := by decide +kernel
theorem dX6_appoints_15 : decode cX6_appoints 15 = .ok (.getfield 31, 3) := by decide +kernel
theorem dX6_appoints_18 : decode cX6_appoints 18 = .ok (.iconst 2, 1) := by decide +kernel
theorem dX6_appoints_19 : decode cX6_appoints 19 = .ok (.iaload, 1) := by decide +kernel
theorem dX6_appoints_20 : decode cX6_appoints 20 = .ok (.if_icmp .ge 49, 3) := by decide +kernel
theorem dX6_appoints_23 : decode cX6_appoints 23 = .ok (.aload_n 0, 1) := by decide +kernel
theorem dX6_appoints_24 : decode cX6_appoints 24 = .ok (.getfield 31, 3) := by decide +kernel
theorem dX6_appoints_27 : decode cX6_appoints 27 = .ok (.bipush 40, 2) := by decide +kernel
theorem dX6_appoints_29 : decode cX6_appoints 29 = .ok (.iload_n 2, 1) := by decide +kernel
theorem dX6_appoints_30 : decode cX6_appoints 30 = .ok (.iadd, 1) := by decide +kernel
theorem dX6_appoints_31 : decode cX6_appoints 31 = .ok (.iaload, 1) := by decide +kernel
theorem dX6_appoints_32 : decode cX6_appoints 32 = .ok (.istore_n 3, 1) := by decide +kernel
theorem dX6_appoints_33 : decode cX6_appoints 33 = .ok (.aload_n 0, 1) := by decide +kernel
theorem dX6_appoints_34 : decode cX6_appoints 34 = .ok (.getfield 31, 3) := by decide +kernel
theorem dX6_appoints_37 : decode cX6_appoints 37 = .ok (.bipush 40, 2) := by decide +kernel
theorem dX6_appoints_39 : decode cX6_appoints 39 = .ok (.iload_n 2, 1) := by decide +kernel
theorem dX6_appoints_40 : decode cX6_appoints 40 = .ok (.iadd, 1) := by decide +kernel
theorem dX6_appoints_41 : decode cX6_appoints 41 = .ok (.iload_n 1, 1) := by decide +kernel
theorem dX6_appoints_42 : decode cX6_appoints 42 = .ok (.iload_n 2, 1) := by decide +kernel
theorem dX6_appoints_43 : decode cX6_appoints 43 = .ok (.invokestatic 124, 3) := by decide +kernel
theorem dX6_appoints_46 : decode cX6_appoints 46 = .ok (.ifCond .ne 7, 3) := by decide +kernel
theorem dX6_appoints_49 : decode cX6_appoints 49 = .ok (.iconst (-1), 1) := by decide +kernel
theorem dX6_appoints_50 : decode cX6_appoints 50 = .ok (.goto 12, 3) := by decide +kernel
theorem dX6_appoints_53 : decode cX6_appoints 53 = .ok (.iload_n 3, 1) := by decide +kernel
theorem dX6_appoints_54 : decode cX6_appoints 54 = .ok (.ifCond .ge 7, 3) := by decide +kernel
theorem dX6_appoints_57 : decode cX6_appoints 57 = .ok (.iconst 0, 1) := by decide +kernel
theorem dX6_appoints_58 : decode cX6_appoints 58 = .ok (.goto 4, 3) := by decide +kernel
theorem dX6_appoints_61 : decode cX6_appoints 61 = .ok (.iload_n 3, 1) := by decide +kernel
theorem dX6_appoints_62 : decode cX6_appoints 62 = .ok (.iastore, 1) := by decide +kernel
theorem dX6_appoints_63 : decode cX6_appoints 63 = .ok (.iinc 2 1, 3) := by decide +kernel
theorem dX6_appoints_66 : decode cX6_appoints 66 = .ok (.goto (-53), 3) := by decide +kernel
theorem dX6_appoints_69 : decode cX6_appoints 69 = .ok (.return_, 1) := by decide +kernel
set_option maxRecDepth 20000 in
theorem ggX6_doClash_X6_isSo : GoodIn wsX6_doClash wsX6_isSo := goodIn_r _ [5, 6, 7, 8, 4, 9, 10, 11, 12, 13, 14, 15, 16, 17, 18, 19, 20, 21, 22, 23, 24, 25, 26, 27, 28, 29, 30, 31, 32, 33] (by decide +kernel) (by decide +kernel)
set_option maxRecDepth 20000 in
theorem gX6_doClash_X6_isSo : GoodIn wsX6_doClash (wsV RX6 131 RX6 yX6_isSo wsX6_isSo) := goodIn_app (goodIn_of _ (by decide +kernel)) ggX6_doClash_X6_isSo
theorem dX6_doClash_0 : decode cX6_doClash 0 = .ok (.iconst 0, 1) := by decide +kernel
theorem dX6_doClash_1 : decode cX6_doClash 1 = .ok (.istore_n 3, 1) := by decide +kernel
theorem dX6_doClash_2 : decode cX6_doClash 2 = .ok (.iload_n 3, 1) := by decide +kernel
theorem dX6_doClash_3 : decode cX6_doClash 3 = .ok (.bipush 64, 2) := by decide +kernel
theorem dX6_doClash_5 : decode cX6_doClash 5 = .ok (.if_icmp .ge 29, 3) := by decide +kernel
theorem dX6_doClash_8 : decode cX6_doClash 8 = .ok (.aload_n 0, 1) := by decide +kernel
theorem dX6_doClash_9 : decode cX6_doClash 9 = .ok (.iload_n 1, 1) := by decide +kernel
theorem dX6_doClash_10 : decode cX6_doClash 10 = .ok (.iload_n 3, 1) := by decide +kernel
theorem dX6_doClash_11 : decode cX6_doClash 11 = .ok (.invokevirtual 131, 3) := by decide +kernel
theorem dX6_doClash_14 : decode cX6_doClash 14 = .ok (.ifCond .eq 14, 3) := by decide +kernel
theorem dX6_doClash_17 : decode cX6_doClash 17 = .ok (.aload_n 0, 1) := by decide +kernel
theorem dX6_doClash_18 : decode cX6_doClash 18 = .ok (.iload_n 2, 1) := by decide +kernel
theorem dX6_doClash_19 : decode cX6_doClash 19 = .ok (.iload_n 3, 1) := by decide +kernel
theorem dX6_doClash_20 : decode cX6_doClash 20 = .ok (.invokevirtual 131, 3) := by decide +kernel
theorem dX6_doClash_23 : decode cX6_doClash 23 = .ok (.ifCond .eq 5, 3) := by decide +kernel
theorem dX6_doClash_26 : decode cX6_doClash 26 = .ok (.iconst 0, 1) := by decide +kernel
theorem dX6_doClash_27 : decode cX6_doClash 27 = .ok (.ireturn, 1) := by decide +kernel
theorem dX6_doClash_28 : decode cX6_doClash 28 = .ok (.iinc 3 1, 3) := by decide +kernel
theorem dX6_doClash_31 : decode cX6_doClash 31 = .ok (.goto (-29), 3) := by decide +kernel
theorem dX6_doClash_34 : decode cX6_doClash 34 = .ok (.iconst 1, 1) := by decide +kernel
theorem dX6_doClash_35 : decode cX6_doClash 35 = .ok (.ireturn, 1) := by decide +kernel
set_option maxRecDepth 20000 in
theorem ggX6_goes_X6_doClash : GoodIn wsX6_goes wsX6_doClash := goodIn_r _ [9, 10, 11, 12, 8, 13, 2, 14, 15, 16, 17, 18, 19, 20, 21, 22, 23, 24, 25, 26, 27, 28, 29, 30, 31, 32, 33, 34, 35, 36, 37, 38, 39, 40] (by decide +kernel) (by decide +kernel)
set_option maxRecDepth 20000 in
theorem gX6_goes_X6_doClash : GoodIn wsX6_goes (wsV RX6 140 RX6 yX6_doClash wsX6_doClash) := goodIn_app (goodIn_of _ (by decide +kernel)) ggX6_goes_X6_doClash
theorem dX6_goes_0 : decode cX6_goes 0 = .ok (.aload_n 0, 1) := by decide +kernel
theorem dX6_goes_1 : decode cX6_goes 1 = .ok (.bipush (-4), 2) := by decide +kernel
theorem dX6_goes_3 : decode cX6_goes 3 = .ok (.putfield 137, 3) := by decide +kernel
theorem dX6_goes_6 : decode cX6_goes 6 = .ok (.aload_n 0, 1) := by decide +kernel
theorem dX6_goes_7 : decode cX6_goes 7 = .ok (.getfield 31, 3) := by decide +kernel
theorem dX6_goes_10 : decode cX6_goes 10 = .ok (.iconst 1, 1) := by decide +kernel
theorem dX6_goes_11 : decode cX6_goes 11 = .ok (.dup2, 1) := by decide +kernel
theorem dX6_goes_12 : decode cX6_goes 12 = .ok (.iaload, 1) := by decide +kernel
theorem dX6_goes_13 : decode cX6_goes 13 = .ok (.iconst 1, 1) := by decide +kernel
theorem dX6_goes_14 : decode cX6_goes 14 = .ok (.iadd, 1) := by decide +kernel
theorem dX6_goes_15 : decode cX6_goes 15 = .ok (.iastore, 1) := by decide +kernel
theorem dX6_goes_16 : decode cX6_goes 16 = .ok (.iconst 0, 1) := by decide +kernel
theorem dX6_goes_17 : decode cX6_goes 17 = .ok (.istore_n 1, 1) := by decide +kernel
theorem dX6_goes_18 : decode cX6_goes 18 = .ok (.iload_n 1, 1) := by decide +kernel
theorem dX6_goes_19 : decode cX6_goes 19 = .ok (.aload_n 0, 1) := by decide +kernel
theorem dX6_goes_20 : decode cX6_goes 20 = .ok (.getfield 31, 3) := by decide +kernel
theorem dX6_goes_23 : decode cX6_goes 23 = .ok (.iconst 2, 1) := by decide +kernel
theorem dX6_goes_24 : decode cX6_goes 24 = .ok (.iaload, 1) := by decide +kernel
theorem dX6_goes_25 : decode cX6_goes 25 = .ok (.if_icmp .ge 38, 3) := by decide +kernel
theorem dX6_goes_28 : decode cX6_goes 28 = .ok (.aload_n 0, 1) := by decide +kernel
theorem dX6_goes_29 : decode cX6_goes 29 = .ok (.getfield 31, 3) := by decide +kernel
theorem dX6_goes_32 : decode cX6_goes 32 = .ok (.bipush 40, 2) := by decide +kernel
theorem dX6_goes_34 : decode cX6_goes 34 = .ok (.iload_n 1, 1) := by decide +kernel
theorem dX6_goes_35 : decode cX6_goes 35 = .ok (.iadd, 1) := by decide +kernel
theorem dX6_goes_36 : decode cX6_goes 36 = .ok (.dup2, 1) := by decide +kernel
theorem dX6_goes_37 : decode cX6_goes 37 = .ok (.iaload, 1) := by decide +kernel
theorem dX6_goes_38 : decode cX6_goes 38 = .ok (.aload_n 0, 1) := by decide +kernel
theorem dX6_goes_39 : decode cX6_goes 39 = .ok (.getfield 31, 3) := by decide +kernel
theorem dX6_goes_42 : decode cX6_goes 42 = .ok (.bipush 40, 2) := by decide +kernel
theorem dX6_goes_44 : decode cX6_goes 44 = .ok (.iload_n 1, 1) := by decide +kernel
theorem dX6_goes_45 : decode cX6_goes 45 = .ok (.iadd, 1) := by decide +kernel
theorem dX6_goes_46 : decode cX6_goes 46 = .ok (.iaload, 1) := by decide +kernel
theorem dX6_goes_47 : decode cX6_goes 47 = .ok (.ifCond .ge 7, 3) := by decide +kernel
theorem dX6_goes_50 : decode cX6_goes 50 = .ok (.iconst 0, 1) := by decide +kernel
theorem dX6_goes_51 : decode cX6_goes 51 = .ok (.goto 4, 3) := by decide +kernel
theorem dX6_goes_54 : decode cX6_goes 54 = .ok (.iconst 1, 1) := by decide +kernel
theorem dX6_goes_55 : decode cX6_goes 55 = .ok (.iadd, 1) := by decide +kernel
theorem dX6_goes_56 : decode cX6_goes 56 = .ok (.iastore, 1) := by decide +kernel
theorem dX6_goes_57 : decode cX6_goes 57 = .ok (.iinc 1 1, 3) := by decide +kernel
theorem dX6_goes_60 : decode cX6_goes 60 = .ok (.goto (-42), 3) := by decide +kernel
theorem dX6_goes_63 : decode cX6_goes 63 = .ok (.iconst 0, 1) := by decide +kernel
theorem dX6_goes_64 : decode cX6_goes 64 = .ok (.istore_n 1, 1) := by decide +kernel
theorem dX6_goes_65 : decode cX6_goes 65 = .ok (.iload_n 1, 1) := by decide +kernel
theorem dX6_goes_66 : decode cX6_goes 66 = .ok (.aload_n 0, 1) := by decide +kernel
theorem dX6_goes_67 : decode cX6_goes 67 = .ok (.getfield 31, 3) := by decide +kernel
theorem dX6_goes_70 : decode cX6_goes 70 = .ok (.iconst 2, 1) := by decide +kernel
theorem dX6_goes_71 : decode cX6_goes 71 = .ok (.iaload, 1) := by decide +kernel
theorem dX6_goes_72 : decode cX6_goes 72 = .ok (.if_icmp .ge 140, 3) := by decide +kernel
theorem dX6_goes_75 : decode cX6_goes 75 = .ok (.iload_n 1, 1) := by decide +kernel
theorem dX6_goes_76 : decode cX6_goes 76 = .ok (.iconst 1, 1) := by decide +kernel
theorem dX6_goes_77 : decode cX6_goes 77 = .ok (.iadd, 1) := by decide +kernel
theorem dX6_goes_78 : decode cX6_goes 78 = .ok (.istore_n 2, 1) := by decide +kernel
theorem dX6_goes_79 : decode cX6_goes 79 = .ok (.iload_n 2, 1) := by decide +kernel
theorem dX6_goes_80 : decode cX6_goes 80 = .ok (.aload_n 0, 1) := by decide +kernel
theorem dX6_goes_81 : decode cX6_goes 81 = .ok (.getfield 31, 3) := by decide +kernel
theorem dX6_goes_84 : decode cX6_goes 84 = .ok (.iconst 2, 1) := by decide +kernel
theorem dX6_goes_85 : decode cX6_goes 85 = .ok (.iaload, 1) := by decide +kernel
theorem dX6_goes_86 : decode cX6_goes 86 = .ok (.if_icmp .ge 120, 3) := by decide +kernel
theorem dX6_goes_89 : decode cX6_goes 89 = .ok (.aload_n 0, 1) := by decide +kernel
theorem dX6_goes_90 : decode cX6_goes 90 = .ok (.getfield 31, 3) := by decide +kernel
theorem dX6_goes_93 : decode cX6_goes 93 = .ok (.bipush 40, 2) := by decide +kernel
theorem dX6_goes_95 : decode cX6_goes 95 = .ok (.iload_n 1, 1) := by decide +kernel
theorem dX6_goes_96 : decode cX6_goes 96 = .ok (.iadd, 1) := by decide +kernel
theorem dX6_goes_97 : decode cX6_goes 97 = .ok (.iaload, 1) := by decide +kernel
theorem dX6_goes_98 : decode cX6_goes 98 = .ok (.aload_n 0, 1) := by decide +kernel
theorem dX6_goes_99 : decode cX6_goes 99 = .ok (.getfield 105, 3) := by decide +kernel
theorem dX6_goes_102 : decode cX6_goes 102 = .ok (.if_icmp .lt 98, 3) := by decide +kernel
theorem dX6_goes_105 : decode cX6_goes 105 = .ok (.aload_n 0, 1) := by decide +kernel
theorem dX6_goes_106 : decode cX6_goes 106 = .ok (.getfield 31, 3) := by decide +kernel
theorem dX6_goes_109 : decode cX6_goes 109 = .ok (.bipush 40, 2) := by decide +kernel
theorem dX6_goes_111 : decode cX6_goes 111 = .ok (.iload_n 2, 1) := by decide +kernel
theorem dX6_goes_112 : decode cX6_goes 112 = .ok (.iadd, 1) := by decide +kernel
theorem dX6_goes_113 : decode cX6_goes 113 = .ok (.iaload, 1) := by decide +kernel
theorem dX6_goes_114 : decode cX6_goes 114 = .ok (.aload_n 0, 1) := by decide +kernel
theorem dX6_goes_115 : decode cX6_goes 115 = .ok (.getfield 105, 3) := by decide +kernel
theorem dX6_goes_118 : decode cX6_goes 118 = .ok (.if_icmp .lt 82, 3) := by decide +kernel
theorem dX6_goes_121 : decode cX6_goes 121 = .ok (.aload_n 0, 1) := by decide +kernel
theorem dX6_goes_122 : decode cX6_goes 122 = .ok (.iload_n 1, 1) := by decide +kernel
theorem dX6_goes_123 : decode cX6_goes 123 = .ok (.iload_n 2, 1) := by decide +kernel
theorem dX6_goes_124 : decode cX6_goes 124 = .ok (.invokevirtual 140, 3) := by decide +kernel
theorem dX6_goes_127 : decode cX6_goes 127 = .ok (.ifCond .eq 73, 3) := by decide +kernel
theorem dX6_goes_130 : decode cX6_goes 130 = .ok (.aload_n 0, 1) := by decide +kernel
theorem dX6_goes_131 : decode cX6_goes 131 = .ok (.getfield 31, 3) := by decide +kernel
theorem dX6_goes_134 : decode cX6_goes 134 = .ok (.iconst 3, 1) := by decide +kernel
theorem dX6_goes_135 : decode cX6_goes 135 = .ok (.dup2, 1) := by decide +kernel
theorem dX6_goes_136 : decode cX6_goes 136 = .ok (.iaload, 1) := by decide +kernel
theorem dX6_goes_137 : decode cX6_goes 137 = .ok (.iconst 1, 1) := by decide +kernel
theorem dX6_goes_138 : decode cX6_goes 138 = .ok (.iload_n 1, 1) := by decide +kernel
theorem dX6_goes_139 : decode cX6_goes 139 = .ok (.ishl, 1) := by decide +kernel
theorem dX6_goes_140 : decode cX6_goes 140 = .ok (.iconst 1, 1) := by decide +kernel
theorem dX6_goes_141 : decode cX6_goes 141 = .ok (.iload_n 2, 1) := by decide +kernel
theorem dX6_goes_142 : decode cX6_goes 142 = .ok (.ishl, 1) := by decide +kernel
theorem dX6_goes_143 : decode cX6_goes 143 = .ok (.ior, 1) := by decide +kernel
theorem dX6_goes_144 : decode cX6_goes 144 = .ok (.ior, 1) := by decide +kernel
theorem dX6_goes_145 : decode cX6_goes 145 = .ok (.iastore, 1) := by decide +kernel
theorem dX6_goes_146 : decode cX6_goes 146 = .ok (.aload_n 0, 1) := by decide +kernel
theorem dX6_goes_147 : decode cX6_goes 147 = .ok (.getfield 31, 3) := by decide +kernel
theorem dX6_goes_150 : decode cX6_goes 150 = .ok (.bipush 40, 2) := by decide +kernel
theorem dX6_goes_152 : decode cX6_goes 152 = .ok (.iload_n 1, 1) := by decide +kernel
theorem dX6_goes_153 : decode cX6_goes 153 = .ok (.iadd, 1) := by decide +kernel
theorem dX6_goes_154 : decode cX6_goes 154 = .ok (.iconst (-1), 1) := by decide +kernel
theorem dX6_goes_155 : decode cX6_goes 155 = .ok (.iastore, 1) := by decide +kernel
theorem dX6_goes_156 : decode cX6_goes 156 = .ok (.aload_n 0, 1) := by decide +kernel
theorem dX6_goes_157 : decode cX6_goes 157 = .ok (.getfield 31, 3) := by decide +kernel
theorem dX6_goes_160 : decode cX6_goes 160 = .ok (.bipush 40, 2) := by decide +kernel
theorem dX6_goes_162 : decode cX6_goes 162 = .ok (.iload_n 2, 1) := by decide +kernel
theorem dX6_goes_163 : decode cX6_goes 163 = .ok (.iadd, 1) := by decide +kernel
theorem dX6_goes_164 : decode cX6_goes 164 = .ok (.iconst (-1), 1) := by decide +kernel
theorem dX6_goes_165 : decode cX6_goes 165 = .ok (.iastore, 1) := by decide +kernel
theorem dX6_goes_166 : decode cX6_goes 166 = .ok (.aload_n 0, 1) := by decide +kernel
theorem dX6_goes_167 : decode cX6_goes 167 = .ok (.aload_n 0, 1) := by decide +kernel
theorem dX6_goes_168 : decode cX6_goes 168 = .ok (.getfield 137, 3) := by decide +kernel
theorem dX6_goes_171 : decode cX6_goes 171 = .ok (.ifCond .ge 12, 3) := by decide +kernel
theorem dX6_goes_174 : decode cX6_goes 174 = .ok (.bipush 10, 2) := by decide +kernel
theorem dX6_goes_176 : decode cX6_goes 176 = .ok (.iload_n 1, 1) := by decide +kernel
theorem dX6_goes_177 : decode cX6_goes 177 = .ok (.imul, 1) := by decide +kernel
theorem dX6_goes_178 : decode cX6_goes 178 = .ok (.iload_n 2, 1) := by decide +kernel
theorem dX6_goes_179 : decode cX6_goes 179 = .ok (.iadd, 1) := by decide +kernel
theorem dX6_goes_180 : decode cX6_goes 180 = .ok (.goto 7, 3) := by decide +kernel
theorem dX6_goes_183 : decode cX6_goes 183 = .ok (.aload_n 0, 1) := by decide +kernel
theorem dX6_goes_184 : decode cX6_goes 184 = .ok (.getfield 137, 3) := by decide +kernel
theorem dX6_goes_187 : decode cX6_goes 187 = .ok (.putfield 137, 3) := by decide +kernel
theorem dX6_goes_190 : decode cX6_goes 190 = .ok (.aload_n 0, 1) := by decide +kernel
theorem dX6_goes_191 : decode cX6_goes 191 = .ok (.dup, 1) := by decide +kernel
theorem dX6_goes_192 : decode cX6_goes 192 = .ok (.getfield 143, 3) := by decide +kernel
theorem dX6_goes_195 : decode cX6_goes 195 = .ok (.iconst 2, 1) := by decide +kernel
theorem dX6_goes_196 : decode cX6_goes 196 = .ok (.iadd, 1) := by decide +kernel
theorem dX6_goes_197 : decode cX6_goes 197 = .ok (.putfield 143, 3) := by decide +kernel
theorem dX6_goes_200 : decode cX6_goes 200 = .ok (.iinc 2 1, 3) := by decide +kernel
theorem dX6_goes_203 : decode cX6_goes 203 = .ok (.goto (-124), 3) := by decide +kernel
theorem dX6_goes_206 : decode cX6_goes 206 = .ok (.iinc 1 1, 3) := by decide +kernel
theorem dX6_goes_209 : decode cX6_goes 209 = .ok (.goto (-144), 3) := by decide +kernel
theorem dX6_goes_212 : decode cX6_goes 212 = .ok (.return_, 1) := by decide +kernel
theorem dX6_police_0 : decode cX6_police 0 = .ok (.iconst 0, 1) := by decide +kernel
theorem dX6_police_1 : decode cX6_police 1 = .ok (.istore_n 1, 1) := by decide +kernel
theorem dX6_police_2 : decode cX6_police 2 = .ok (.iconst 0, 1) := by decide +kernel
theorem dX6_police_3 : decode cX6_police 3 = .ok (.istore_n 2, 1) := by decide +kernel
theorem dX6_police_4 : decode cX6_police 4 = .ok (.iload_n 2, 1) := by decide +kernel
theorem dX6_police_5 : decode cX6_police 5 = .ok (.aload_n 0, 1) := by decide +kernel
theorem dX6_police_6 : decode cX6_police 6 = .ok (.getfield 31, 3) := by decide +kernel
theorem dX6_police_9 : decode cX6_police 9 = .ok (.iconst 2, 1) := by decide +kernel
theorem dX6_police_10 : decode cX6_police 10 = .ok (.iaload, 1) := by decide +kernel
theorem dX6_police_11 : decode cX6_police 11 = .ok (.if_icmp .ge 31, 3) := by decide +kernel
theorem dX6_police_14 : decode cX6_police 14 = .ok (.iload_n 1, 1) := by decide +kernel
theorem dX6_police_15 : decode cX6_police 15 = .ok (.aload_n 0, 1) := by decide +kernel
theorem dX6_police_16 : decode cX6_police 16 = .ok (.getfield 31, 3) := by decide +kernel
theorem dX6_police_19 : decode cX6_police 19 = .ok (.bipush 40, 2) := by decide +kernel
theorem dX6_police_21 : decode cX6_police 21 = .ok (.iload_n 2, 1) := by decide +kernel
theorem dX6_police_22 : decode cX6_police 22 = .ok (.iadd, 1) := by decide +kernel
theorem dX6_police_23 : decode cX6_police 23 = .ok (.iaload, 1) := by decide +kernel
theorem dX6_police_24 : decode cX6_police 24 = .ok (.ifCond .ge 7, 3) := by decide +kernel
theorem dX6_police_27 : decode cX6_police 27 = .ok (.iconst 0, 1) := by decide +kernel
theorem dX6_police_28 : decode cX6_police 28 = .ok (.goto 6, 3) := by decide +kernel
theorem dX6_police_31 : decode cX6_police 31 = .ok (.iconst 1, 1) := by decide +kernel
theorem dX6_police_32 : decode cX6_police 32 = .ok (.iload_n 2, 1) := by decide +kernel
theorem dX6_police_33 : decode cX6_police 33 = .ok (.ishl, 1) := by decide +kernel
theorem dX6_police_34 : decode cX6_police 34 = .ok (.ior, 1) := by decide +kernel
theorem dX6_police_35 : decode cX6_police 35 = .ok (.istore_n 1, 1) := by decide +kernel
theorem dX6_police_36 : decode cX6_police 36 = .ok (.iinc 2 1, 3) := by decide +kernel
theorem dX6_police_39 : decode cX6_police 39 = .ok (.goto (-35), 3) := by decide +kernel
theorem dX6_police_42 : decode cX6_police 42 = .ok (.iload_n 1, 1) := by decide +kernel
theorem dX6_police_43 : decode cX6_police 43 = .ok (.ireturn, 1) := by decide +kernel
set_option maxRecDepth 20000 in
theorem ggX6_saying_X6_isSaying : GoodIn wsX6_saying wsX6_isSaying := goodIn_r _ [6, 1, 7, 8, 5, 9, 28, 29, 30, 31, 32, 33, 34, 35, 36, 37, 38, 39, 40, 41, 42, 43, 44, 45, 46, 47, 48] (by decide +kernel) (by decide +kernel)
set_option maxRecDepth 20000 in
theorem gX6_saying_X6_isSaying : GoodIn wsX6_saying (wsV RX6 146 RX6 yX6_isSaying wsX6_isSaying) := goodIn_app (goodIn_of _ (by decide +kernel)) ggX6_saying_X6_isSaying
set_option maxRecDepth 20000 in
theorem ggX6_saying_X6_in : GoodIn wsX6_saying wsX6_in := goodIn_r _ [9] (by decide +kernel) (by decide +kernel)
set_option maxRecDepth 20000 in
theorem gX6_saying_X6_in : GoodIn wsX6_saying (va_wsS RX6 64 yX6_in wsX6_in) := goodIn_app (goodIn_of _ (by decide +kernel)) ggX6_saying_X6_in
set_option maxRecDepth 20000 in
theorem ggX6_saying_X6_asItIs : GoodIn wsX6_saying wsX6_asItIs := goodIn_r _ [13, 14, 1, 15, 16, 5, 17, 28, 29, 30, 31, 32, 33, 34, 35, 36, 37, 38, 39, 40, 41, 42, 43, 44, 45, 46, 47, 48] (by decide +kernel) (by decide +kernel)
set_option maxRecDepth 20000 in
theorem gX6_saying_X6_asItIs : GoodIn wsX6_saying (wsV RX6 149 RX6 yX6_asItIs wsX6_asItIs) := goodIn_app (goodIn_of _ (by decide +kernel)) ggX6_saying_X6_asItIs
set_option maxRecDepth 20000 in
theorem ggX6_saying_X6_isSo : GoodIn wsX6_saying wsX6_isSo := goodIn_r _ [21, 14, 22, 23, 5, 24, 25, 26, 27, 28, 29, 30, 31, 32, 33, 34, 35, 36, 37, 38, 39, 40, 41, 42, 43, 44, 45, 46, 47, 48] (by decide +kernel) (by decide +kernel)
set_option maxRecDepth 20000 in
theorem gX6_saying_X6_isSo : GoodIn wsX6_saying (wsV RX6 131 RX6 yX6_isSo wsX6_isSo) := goodIn_app (goodIn_of _ (by decide +kernel)) ggX6_saying_X6_isSo
theorem dX6_saying_0 : decode cX6_saying 0 = .ok (.aload_n 0, 1) := by decide +kernel
theorem dX6_saying_1 : decode cX6_saying 1 = .ok (.iload_n 1, 1) := by decide +kernel
theorem dX6_saying_2 : decode cX6_saying 2 = .ok (.invokevirtual 146, 3) := by decide +kernel
theorem dX6_saying_5 : decode cX6_saying 5 = .ok (.ifCond .eq 13, 3) := by decide +kernel
theorem dX6_saying_8 : decode cX6_saying 8 = .ok (.iload_n 2, 1) := by decide +kernel
theorem dX6_saying_9 : decode cX6_saying 9 = .ok (.iconst 0, 1) := by decide +kernel
theorem dX6_saying_10 : decode cX6_saying 10 = .ok (.bipush 6, 2) := by decide +kernel
theorem dX6_saying_12 : decode cX6_saying 12 = .ok (.invokestatic 64, 3) := by decide +kernel
theorem dX6_saying_15 : decode cX6_saying 15 = .ok (.ifCond .ne 5, 3) := by decide +kernel
theorem dX6_saying_18 : decode cX6_saying 18 = .ok (.iconst (-1), 1) := by decide +kernel
theorem dX6_saying_19 : decode cX6_saying 19 = .ok (.ireturn, 1) := by decide +kernel
theorem dX6_saying_20 : decode cX6_saying 20 = .ok (.aload_n 0, 1) := by decide +kernel
theorem dX6_saying_21 : decode cX6_saying 21 = .ok (.invokevirtual 149, 3) := by decide +kernel
theorem dX6_saying_24 : decode cX6_saying 24 = .ok (.iload_n 2, 1) := by decide +kernel
theorem dX6_saying_25 : decode cX6_saying 25 = .ok (.iconst 4, 1) := by decide +kernel
theorem dX6_saying_26 : decode cX6_saying 26 = .ok (.if_icmp .ge 16, 3) := by decide +kernel
theorem dX6_saying_29 : decode cX6_saying 29 = .ok (.aload_n 0, 1) := by decide +kernel
theorem dX6_saying_30 : decode cX6_saying 30 = .ok (.getfield 7, 3) := by decide +kernel
theorem dX6_saying_33 : decode cX6_saying 33 = .ok (.iconst 4, 1) := by decide +kernel
theorem dX6_saying_34 : decode cX6_saying 34 = .ok (.iconst 4, 1) := by decide +kernel
theorem dX6_saying_35 : decode cX6_saying 35 = .ok (.iload_n 1, 1) := by decide +kernel
theorem dX6_saying_36 : decode cX6_saying 36 = .ok (.imul, 1) := by decide +kernel
theorem dX6_saying_37 : decode cX6_saying 37 = .ok (.iadd, 1) := by decide +kernel
theorem dX6_saying_38 : decode cX6_saying 38 = .ok (.iload_n 2, 1) := by decide +kernel
theorem dX6_saying_39 : decode cX6_saying 39 = .ok (.iadd, 1) := by decide +kernel
theorem dX6_saying_40 : decode cX6_saying 40 = .ok (.iaload, 1) := by decide +kernel
theorem dX6_saying_41 : decode cX6_saying 41 = .ok (.ireturn, 1) := by decide +kernel
theorem dX6_saying_42 : decode cX6_saying 42 = .ok (.iload_n 2, 1) := by decide +kernel
theorem dX6_saying_43 : decode cX6_saying 43 = .ok (.iconst 4, 1) := by decide +kernel
theorem dX6_saying_44 : decode cX6_saying 44 = .ok (.if_icmp .ne 25, 3) := by decide +kernel
theorem dX6_saying_47 : decode cX6_saying 47 = .ok (.aload_n 0, 1) := by decide +kernel
theorem dX6_saying_48 : decode cX6_saying 48 = .ok (.iload_n 1, 1) := by decide +kernel
theorem dX6_saying_49 : decode cX6_saying 49 = .ok (.aload_n 0, 1) := by decide +kernel
theorem dX6_saying_50 : decode cX6_saying 50 = .ok (.getfield 7, 3) := by decide +kernel
theorem dX6_saying_53 : decode cX6_saying 53 = .ok (.iconst 0, 1) := by decide +kernel
theorem dX6_saying_54 : decode cX6_saying 54 = .ok (.iaload, 1) := by decide +kernel
theorem dX6_saying_55 : decode cX6_saying 55 = .ok (.invokevirtual 131, 3) := by decide +kernel
theorem dX6_saying_58 : decode cX6_saying 58 = .ok (.ifCond .eq 7, 3) := by decide +kernel
theorem dX6_saying_61 : decode cX6_saying 61 = .ok (.iconst 1, 1) := by decide +kernel
theorem dX6_saying_62 : decode cX6_saying 62 = .ok (.goto 51, 3) := by decide +kernel
theorem dX6_saying_65 : decode cX6_saying 65 = .ok (.iconst 0, 1) := by decide +kernel
theorem dX6_saying_66 : decode cX6_saying 66 = .ok (.goto 47, 3) := by decide +kernel
theorem dX6_saying_69 : decode cX6_saying 69 = .ok (.iload_n 2, 1) := by decide +kernel
theorem dX6_saying_70 : decode cX6_saying 70 = .ok (.iconst 5, 1) := by decide +kernel
theorem dX6_saying_71 : decode cX6_saying 71 = .ok (.if_icmp .ne 16, 3) := by decide +kernel
theorem dX6_saying_74 : decode cX6_saying 74 = .ok (.aload_n 0, 1) := by decide +kernel
theorem dX6_saying_75 : decode cX6_saying 75 = .ok (.getfield 7, 3) := by decide +kernel
theorem dX6_saying_78 : decode cX6_saying 78 = .ok (.iconst 3, 1) := by decide +kernel
theorem dX6_saying_79 : decode cX6_saying 79 = .ok (.iaload, 1) := by decide +kernel
theorem dX6_saying_80 : decode cX6_saying 80 = .ok (.iload_n 1, 1) := by decide +kernel
theorem dX6_saying_81 : decode cX6_saying 81 = .ok (.ishr, 1) := by decide +kernel
theorem dX6_saying_82 : decode cX6_saying 82 = .ok (.iconst 1, 1) := by decide +kernel
theorem dX6_saying_83 : decode cX6_saying 83 = .ok (.iand, 1) := by decide +kernel
theorem dX6_saying_84 : decode cX6_saying 84 = .ok (.goto 29, 3) := by decide +kernel
theorem dX6_saying_87 : decode cX6_saying 87 = .ok (.aload_n 0, 1) := by decide +kernel
theorem dX6_saying_88 : decode cX6_saying 88 = .ok (.getfield 7, 3) := by decide +kernel
theorem dX6_saying_91 : decode cX6_saying 91 = .ok (.bipush 40, 2) := by decide +kernel
theorem dX6_saying_93 : decode cX6_saying 93 = .ok (.iload_n 1, 1) := by decide +kernel
theorem dX6_saying_94 : decode cX6_saying 94 = .ok (.iadd, 1) := by decide +kernel
theorem dX6_saying_95 : decode cX6_saying 95 = .ok (.iaload, 1) := by decide +kernel
theorem dX6_saying_96 : decode cX6_saying 96 = .ok (.ifCond .ge 8, 3) := by decide +kernel
theorem dX6_saying_99 : decode cX6_saying 99 = .ok (.bipush (-4), 2) := by decide +kernel
theorem dX6_saying_101 : decode cX6_saying 101 = .ok (.goto 12, 3) := by decide +kernel
theorem dX6_saying_104 : decode cX6_saying 104 = .ok (.aload_n 0, 1) := by decide +kernel
theorem dX6_saying_105 : decode cX6_saying 105 = .ok (.getfield 7, 3) := by decide +kernel
theorem dX6_saying_108 : decode cX6_saying 108 = .ok (.bipush 40, 2) := by decide +kernel
theorem dX6_saying_110 : decode cX6_saying 110 = .ok (.iload_n 1, 1) := by decide +kernel
theorem dX6_saying_111 : decode cX6_saying 111 = .ok (.iadd, 1) := by decide +kernel
theorem dX6_saying_112 : decode cX6_saying 112 = .ok (.iaload, 1) := by decide +kernel
theorem dX6_saying_113 : decode cX6_saying 113 = .ok (.ireturn, 1) := by decide +kernel
set_option maxRecDepth 20000 in
theorem ggX6_fact_X6_isFact : GoodIn wsX6_fact wsX6_isFact := goodIn_r _ [5, 6, 7, 4, 8] (by decide +kernel) (by decide +kernel)
set_option maxRecDepth 20000 in
theorem gX6_fact_X6_isFact : GoodIn wsX6_fact (va_wsS RX6 152 yX6_isFact wsX6_isFact) := goodIn_app (goodIn_of _ (by decide +kernel)) ggX6_fact_X6_isFact
theorem dX6_fact_0 : decode cX6_fact 0 = .ok (.iload_n 1, 1) := by decide +kernel
theorem dX6_fact_1 : decode cX6_fact 1 = .ok (.invokestatic 152, 3) := by decide +kernel
theorem dX6_fact_4 : decode cX6_fact 4 = .ok (.ifCond .eq 16, 3) := by decide +kernel
theorem dX6_fact_7 : decode cX6_fact 7 = .ok (.aload_n 0, 1) := by decide +kernel
theorem dX6_fact_8 : decode cX6_fact 8 = .ok (.getfield 7, 3) := by decide +kernel
theorem dX6_fact_11 : decode cX6_fact 11 = .ok (.iconst 0, 1) := by decide +kernel
theorem dX6_fact_12 : decode cX6_fact 12 = .ok (.iaload, 1) := by decide +kernel
theorem dX6_fact_13 : decode cX6_fact 13 = .ok (.iload_n 1, 1) := by decide +kernel
theorem dX6_fact_14 : decode cX6_fact 14 = .ok (.ishr, 1) := by decide +kernel
theorem dX6_fact_15 : decode cX6_fact 15 = .ok (.iconst 1, 1) := by decide +kernel
theorem dX6_fact_16 : decode cX6_fact 16 = .ok (.iand, 1) := by decide +kernel
theorem dX6_fact_17 : decode cX6_fact 17 = .ok (.goto 4, 3) := by decide +kernel
theorem dX6_fact_20 : decode cX6_fact 20 = .ok (.iconst (-1), 1) := by decide +kernel
theorem dX6_fact_21 : decode cX6_fact 21 = .ok (.ireturn, 1) := by decide +kernel
set_option maxRecDepth 20000 in
theorem ggX6_clash_X6_isSaying : GoodIn wsX6_clash wsX6_isSaying := goodIn_r _ [5, 6, 7, 8, 4, 9, 32, 33, 34, 35, 36, 37, 38, 39, 40, 41, 42, 43, 44, 45, 46, 47, 48, 49, 50, 51, 52] (by decide +kernel) (by decide +kernel)
set_option maxRecDepth 20000 in
theorem gX6_clash_X6_isSaying : GoodIn wsX6_clash (wsV RX6 146 RX6 yX6_isSaying wsX6_isSaying) := goodIn_app (goodIn_of _ (by decide +kernel)) ggX6_clash_X6_isSaying
set_option maxRecDepth 20000 in
theorem ggX6_clash_X6_asItIs : GoodIn wsX6_clash wsX6_asItIs := goodIn_r _ [13, 14, 6, 15, 16, 4, 17, 32, 33, 34, 35, 36, 37, 38, 39, 40, 41, 42, 43, 44, 45, 46, 47, 48, 49, 50, 51, 52] (by decide +kernel) (by decide +kernel)
set_option maxRecDepth 20000 in
theorem gX6_clash_X6_asItIs : GoodIn wsX6_clash (wsV RX6 149 RX6 yX6_asItIs wsX6_asItIs) := goodIn_app (goodIn_of _ (by decide +kernel)) ggX6_clash_X6_asItIs
set_option maxRecDepth 20000 in
theorem ggX6_clash_X6_doClash : GoodIn wsX6_clash wsX6_doClash := goodIn_r _ [21, 22, 23, 24, 4, 25, 14, 26, 27, 28, 29, 30, 31, 32, 33, 34, 35, 36, 37, 38, 39, 40, 41, 42, 43, 44, 45, 46, 47, 48, 49, 50, 51, 52] (by decide +kernel) (by decide +kernel)
set_option maxRecDepth 20000 in
theorem gX6_clash_X6_doClash : GoodIn wsX6_clash (wsV RX6 140 RX6 yX6_doClash wsX6_doClash) := goodIn_app (goodIn_of _ (by decide +kernel)) ggX6_clash_X6_doClash
theorem dX6_clash_0 : decode cX6_clash 0 = .ok (.aload_n 0, 1) := by decide +kernel
theorem dX6_clash_1 : decode cX6_clash 1 = .ok (.iload_n 1, 1) := by decide +kernel
theorem dX6_clash_2 : decode cX6_clash 2 = .ok (.invokevirtual 146, 3) := by decide +kernel
theorem dX6_clash_5 : decode cX6_clash 5 = .ok (.ifCond .eq 16, 3) := by decide +kernel
theorem dX6_clash_8 : decode cX6_clash 8 = .ok (.aload_n 0, 1) := by decide +kernel
theorem dX6_clash_9 : decode cX6_clash 9 = .ok (.iload_n 2, 1) := by decide +kernel
theorem dX6_clash_10 : decode cX6_clash 10 = .ok (.invokevirtual 146, 3) := by decide +kernel
theorem dX6_clash_13 : decode cX6_clash 13 = .ok (.ifCond .eq 8, 3) := by decide +kernel
theorem dX6_clash_16 : decode cX6_clash 16 = .ok (.iload_n 1, 1) := by decide +kernel
theorem dX6_clash_17 : decode cX6_clash 17 = .ok (.iload_n 2, 1) := by decide +kernel
theorem dX6_clash_18 : decode cX6_clash 18 = .ok (.if_icmp .ne 5, 3) := by decide +kernel
theorem dX6_clash_21 : decode cX6_clash 21 = .ok (.iconst (-1), 1) := by decide +kernel
theorem dX6_clash_22 : decode cX6_clash 22 = .ok (.ireturn, 1) := by decide +kernel
theorem dX6_clash_23 : decode cX6_clash 23 = .ok (.aload_n 0, 1) := by decide +kernel
theorem dX6_clash_24 : decode cX6_clash 24 = .ok (.invokevirtual 149, 3) := by decide +kernel
theorem dX6_clash_27 : decode cX6_clash 27 = .ok (.aload_n 0, 1) := by decide +kernel
theorem dX6_clash_28 : decode cX6_clash 28 = .ok (.iload_n 1, 1) := by decide +kernel
theorem dX6_clash_29 : decode cX6_clash 29 = .ok (.iload_n 2, 1) := by decide +kernel
theorem dX6_clash_30 : decode cX6_clash 30 = .ok (.invokevirtual 140, 3) := by decide +kernel
theorem dX6_clash_33 : decode cX6_clash 33 = .ok (.ifCond .eq 7, 3) := by decide +kernel
theorem dX6_clash_36 : decode cX6_clash 36 = .ok (.iconst 1, 1) := by decide +kernel
theorem dX6_clash_37 : decode cX6_clash 37 = .ok (.goto 4, 3) := by decide +kernel
theorem dX6_clash_40 : decode cX6_clash 40 = .ok (.iconst 0, 1) := by decide +kernel
theorem dX6_clash_41 : decode cX6_clash 41 = .ok (.ireturn, 1) := by decide +kernel
set_option maxRecDepth 20000 in
theorem ggX6_remembers_X6_copies : GoodIn wsX6_remembers wsX6_copies := goodIn_r _ [7] (by decide +kernel) (by decide +kernel)
set_option maxRecDepth 20000 in
theorem gX6_remembers_X6_copies : GoodIn wsX6_remembers (va_wsS RX6 108 yX6_copies wsX6_copies) := goodIn_app (goodIn_of _ (by decide +kernel)) ggX6_remembers_X6_copies
theorem dX6_remembers_0 : decode cX6_remembers 0 = .ok (.aload_n 0, 1) := by decide +kernel
theorem dX6_remembers_1 : decode cX6_remembers 1 = .ok (.getfield 115, 3) := by decide +kernel
theorem dX6_remembers_4 : decode cX6_remembers 4 = .ok (.bipush 8, 2) := by decide +kernel
theorem dX6_remembers_6 : decode cX6_remembers 6 = .ok (.if_icmp .ne 43, 3) := by decide +kernel
theorem dX6_remembers_9 : decode cX6_remembers 9 = .ok (.iconst 0, 1) := by decide +kernel
theorem dX6_remembers_10 : decode cX6_remembers 10 = .ok (.istore_n 1, 1) := by decide +kernel
theorem dX6_remembers_11 : decode cX6_remembers 11 = .ok (.iload_n 1, 1) := by decide +kernel
theorem dX6_remembers_12 : decode cX6_remembers 12 = .ok (.sipush 343, 3) := by decide +kernel
theorem dX6_remembers_15 : decode cX6_remembers 15 = .ok (.if_icmp .ge 24, 3) := by decide +kernel
theorem dX6_remembers_18 : decode cX6_remembers 18 = .ok (.aload_n 0, 1) := by decide +kernel
theorem dX6_remembers_19 : decode cX6_remembers 19 = .ok (.getfield 13, 3) := by decide +kernel
theorem dX6_remembers_22 : decode cX6_remembers 22 = .ok (.iload_n 1, 1) := by decide +kernel
theorem dX6_remembers_23 : decode cX6_remembers 23 = .ok (.aload_n 0, 1) := by decide +kernel
theorem dX6_remembers_24 : decode cX6_remembers 24 = .ok (.getfield 13, 3) := by decide +kernel
theorem dX6_remembers_27 : decode cX6_remembers 27 = .ok (.iload_n 1, 1) := by decide +kernel
theorem dX6_remembers_28 : decode cX6_remembers 28 = .ok (.bipush 49, 2) := by decide +kernel
theorem dX6_remembers_30 : decode cX6_remembers 30 = .ok (.iadd, 1) := by decide +kernel
theorem dX6_remembers_31 : decode cX6_remembers 31 = .ok (.iaload, 1) := by decide +kernel
theorem dX6_remembers_32 : decode cX6_remembers 32 = .ok (.iastore, 1) := by decide +kernel
theorem dX6_remembers_33 : decode cX6_remembers 33 = .ok (.iinc 1 1, 3) := by decide +kernel
theorem dX6_remembers_36 : decode cX6_remembers 36 = .ok (.goto (-25), 3) := by decide +kernel
theorem dX6_remembers_39 : decode cX6_remembers 39 = .ok (.aload_n 0, 1) := by decide +kernel
theorem dX6_remembers_40 : decode cX6_remembers 40 = .ok (.dup, 1) := by decide +kernel
theorem dX6_remembers_41 : decode cX6_remembers 41 = .ok (.getfield 115, 3) := by decide +kernel
theorem dX6_remembers_44 : decode cX6_remembers 44 = .ok (.iconst 1, 1) := by decide +kernel
theorem dX6_remembers_45 : decode cX6_remembers 45 = .ok (.isub, 1) := by decide +kernel
theorem dX6_remembers_46 : decode cX6_remembers 46 = .ok (.putfield 115, 3) := by decide +kernel
theorem dX6_remembers_49 : decode cX6_remembers 49 = .ok (.aload_n 0, 1) := by decide +kernel
theorem dX6_remembers_50 : decode cX6_remembers 50 = .ok (.getfield 13, 3) := by decide +kernel
theorem dX6_remembers_53 : decode cX6_remembers 53 = .ok (.bipush 49, 2) := by decide +kernel
theorem dX6_remembers_55 : decode cX6_remembers 55 = .ok (.aload_n 0, 1) := by decide +kernel
theorem dX6_remembers_56 : decode cX6_remembers 56 = .ok (.getfield 115, 3) := by decide +kernel
theorem dX6_remembers_59 : decode cX6_remembers 59 = .ok (.imul, 1) := by decide +kernel
theorem dX6_remembers_60 : decode cX6_remembers 60 = .ok (.aload_n 0, 1) := by decide +kernel
theorem dX6_remembers_61 : decode cX6_remembers 61 = .ok (.getfield 7, 3) := by decide +kernel
theorem dX6_remembers_64 : decode cX6_remembers 64 = .ok (.iconst 0, 1) := by decide +kernel
theorem dX6_remembers_65 : decode cX6_remembers 65 = .ok (.invokestatic 108, 3) := by decide +kernel
theorem dX6_remembers_68 : decode cX6_remembers 68 = .ok (.aload_n 0, 1) := by decide +kernel
theorem dX6_remembers_69 : decode cX6_remembers 69 = .ok (.dup, 1) := by decide +kernel
theorem dX6_remembers_70 : decode cX6_remembers 70 = .ok (.getfield 115, 3) := by decide +kernel
theorem dX6_remembers_73 : decode cX6_remembers 73 = .ok (.iconst 1, 1) := by decide +kernel
theorem dX6_remembers_74 : decode cX6_remembers 74 = .ok (.iadd, 1) := by decide +kernel
theorem dX6_remembers_75 : decode cX6_remembers 75 = .ok (.putfield 115, 3) := by decide +kernel
theorem dX6_remembers_78 : decode cX6_remembers 78 = .ok (.return_, 1) := by decide +kernel
set_option maxRecDepth 20000 in
theorem ggX6_pass_X6_in : GoodIn wsX6_pass wsX6_in := goodIn_r _ [6] (by decide +kernel) (by decide +kernel)
set_option maxRecDepth 20000 in
theorem gX6_pass_X6_in : GoodIn wsX6_pass (va_wsS RX6 64 yX6_in wsX6_in) := goodIn_app (goodIn_of _ (by decide +kernel)) ggX6_pass_X6_in
set_option maxRecDepth 20000 in
theorem ggX6_pass_X6_remembers : GoodIn wsX6_pass wsX6_remembers := goodIn_r _ [10, 11, 12, 1, 13, 14, 5, 15, 41, 42, 43, 44, 45, 46, 47, 48, 49, 50, 51, 52, 53, 54, 55, 56, 57, 58, 59, 60, 61] (by decide +kernel) (by decide +kernel)
set_option maxRecDepth 20000 in
theorem gX6_pass_X6_remembers : GoodIn wsX6_pass (wsV RX6 155 RX6 yX6_remembers wsX6_remembers) := goodIn_app (goodIn_of _ (by decide +kernel)) ggX6_pass_X6_remembers
set_option maxRecDepth 20000 in
theorem ggX6_pass_X6_asItIs : GoodIn wsX6_pass wsX6_asItIs := goodIn_r _ [19, 2, 1, 13, 14, 5, 15, 41, 42, 43, 44, 45, 46, 47, 48, 49, 50, 51, 52, 53, 54, 55, 56, 57, 58, 59, 60, 61] (by decide +kernel) (by decide +kernel)
set_option maxRecDepth 20000 in
theorem gX6_pass_X6_asItIs : GoodIn wsX6_pass (wsV RX6 149 RX6 yX6_asItIs wsX6_asItIs) := goodIn_app (goodIn_of _ (by decide +kernel)) ggX6_pass_X6_asItIs
set_option maxRecDepth 20000 in
theorem ggX6_pass_X6_goes : GoodIn wsX6_pass wsX6_goes := goodIn_r _ [23, 24, 2, 25, 26, 27, 28, 29, 5, 30, 31, 32, 33, 34, 35, 36, 37, 38, 39, 40, 41, 42, 43, 44, 45, 46, 47, 48, 49, 50, 51, 52, 53, 54, 55, 56, 57, 58, 59, 60, 61] (by decide +kernel) (by decide +kernel)
set_option maxRecDepth 20000 in
theorem gX6_pass_X6_goes : GoodIn wsX6_pass (wsV RX6 158 RX6 yX6_goes wsX6_goes) := goodIn_app (goodIn_of _ (by decide +kernel)) ggX6_pass_X6_goes
set_option maxRecDepth 20000 in
theorem ggX6_pass_X6_copies : GoodIn wsX6_pass wsX6_copies := goodIn_r _ [15] (by decide +kernel) (by decide +kernel)
set_option maxRecDepth 20000 in
theorem gX6_pass_X6_copies : GoodIn wsX6_pass (va_wsS RX6 108 yX6_copies wsX6_copies) := goodIn_app (goodIn_of _ (by decide +kernel)) ggX6_pass_X6_copies
theorem dX6_pass_0 : decode cX6_pass 0 = .ok (.iload_n 1, 1) := by decide +kernel
theorem dX6_pass_1 : decode cX6_pass 1 = .ok (.iconst 1, 1) := by decide +kernel
theorem dX6_pass_2 : decode cX6_pass 2 = .ok (.bipush 30, 2) := by decide +kernel
theorem dX6_pass_4 : decode cX6_pass 4 = .ok (.invokestatic 64, 3) := by decide +kernel
theorem dX6_pass_7 : decode cX6_pass 7 = .ok (.ifCond .ne 5, 3) := by decide +kernel
theorem dX6_pass_10 : decode cX6_pass 10 = .ok (.iconst (-1), 1) := by decide +kernel
theorem dX6_pass_11 : decode cX6_pass 11 = .ok (.ireturn, 1) := by decide +kernel
theorem dX6_pass_12 : decode cX6_pass 12 = .ok (.aload_n 0, 1) := by decide +kernel
theorem dX6_pass_13 : decode cX6_pass 13 = .ok (.invokevirtual 155, 3) := by decide +kernel
theorem dX6_pass_16 : decode cX6_pass 16 = .ok (.aload_n 0, 1) := by decide +kernel
theorem dX6_pass_17 : decode cX6_pass 17 = .ok (.invokevirtual 149, 3) := by decide +kernel
theorem dX6_pass_20 : decode cX6_pass 20 = .ok (.iconst 0, 1) := by decide +kernel
theorem dX6_pass_21 : decode cX6_pass 21 = .ok (.istore_n 2, 1) := by decide +kernel
theorem dX6_pass_22 : decode cX6_pass 22 = .ok (.iload_n 2, 1) := by decide +kernel
theorem dX6_pass_23 : decode cX6_pass 23 = .ok (.iload_n 1, 1) := by decide +kernel
theorem dX6_pass_24 : decode cX6_pass 24 = .ok (.if_icmp .ge 13, 3) := by decide +kernel
theorem dX6_pass_27 : decode cX6_pass 27 = .ok (.aload_n 0, 1) := by decide +kernel
theorem dX6_pass_28 : decode cX6_pass 28 = .ok (.invokevirtual 158, 3) := by decide +kernel
theorem dX6_pass_31 : decode cX6_pass 31 = .ok (.iinc 2 1, 3) := by decide +kernel
theorem dX6_pass_34 : decode cX6_pass 34 = .ok (.goto (-12), 3) := by decide +kernel
theorem dX6_pass_37 : decode cX6_pass 37 = .ok (.aload_n 0, 1) := by decide +kernel
theorem dX6_pass_38 : decode cX6_pass 38 = .ok (.getfield 7, 3) := by decide +kernel
theorem dX6_pass_41 : decode cX6_pass 41 = .ok (.iconst 0, 1) := by decide +kernel
theorem dX6_pass_42 : decode cX6_pass 42 = .ok (.aload_n 0, 1) := by decide +kernel
theorem dX6_pass_43 : decode cX6_pass 43 = .ok (.getfield 31, 3) := by decide +kernel
theorem dX6_pass_46 : decode cX6_pass 46 = .ok (.iconst 0, 1) := by decide +kernel
theorem dX6_pass_47 : decode cX6_pass 47 = .ok (.invokestatic 108, 3) := by decide +kernel
theorem dX6_pass_50 : decode cX6_pass 50 = .ok (.aload_n 0, 1) := by decide +kernel
theorem dX6_pass_51 : decode cX6_pass 51 = .ok (.getfield 7, 3) := by decide +kernel
theorem dX6_pass_54 : decode cX6_pass 54 = .ok (.iconst 1, 1) := by decide +kernel
theorem dX6_pass_55 : decode cX6_pass 55 = .ok (.iaload, 1) := by decide +kernel
theorem dX6_pass_56 : decode cX6_pass 56 = .ok (.ireturn, 1) := by decide +kernel
set_option maxRecDepth 20000 in
theorem ggX6_say_X6_in : GoodIn wsX6_say wsX6_in := goodIn_r _ [6] (by decide +kernel) (by decide +kernel)
set_option maxRecDepth 20000 in
theorem gX6_say_X6_in : GoodIn wsX6_say (va_wsS RX6 64 yX6_in wsX6_in) := goodIn_app (goodIn_of _ (by decide +kernel)) ggX6_say_X6_in
set_option maxRecDepth 20000 in
theorem ggX6_say_X6_remembers : GoodIn wsX6_say wsX6_remembers := goodIn_r _ [10, 11, 12, 1, 13, 14, 5, 15, 41, 42, 43, 44, 45, 46, 47, 48, 49, 50, 51, 52, 53, 54, 55, 56, 57, 58, 59, 60, 61] (by decide +kernel) (by decide +kernel)
set_option maxRecDepth 20000 in
theorem gX6_say_X6_remembers : GoodIn wsX6_say (wsV RX6 155 RX6 yX6_remembers wsX6_remembers) := goodIn_app (goodIn_of _ (by decide +kernel)) ggX6_say_X6_remembers
set_option maxRecDepth 20000 in
theorem ggX6_say_X6_asItIs : GoodIn wsX6_say wsX6_asItIs := goodIn_r _ [19, 2, 1, 13, 14, 5, 15, 41, 42, 43, 44, 45, 46, 47, 48, 49, 50, 51, 52, 53, 54, 55, 56, 57, 58, 59, 60, 61] (by decide +kernel) (by decide +kernel)
set_option maxRecDepth 20000 in
theorem gX6_say_X6_asItIs : GoodIn wsX6_say (wsV RX6 149 RX6 yX6_asItIs wsX6_asItIs) := goodIn_app (goodIn_of _ (by decide +kernel)) ggX6_say_X6_asItIs
set_option maxRecDepth 20000 in
theorem ggX6_say_X6_puts : GoodIn wsX6_say wsX6_puts := goodIn_r _ [22] (by decide +kernel) (by decide +kernel)
set_option maxRecDepth 20000 in
theorem gX6_say_X6_puts : GoodIn wsX6_say (va_wsS RX6 60 yX6_puts wsX6_puts) := goodIn_app (goodIn_of _ (by decide +kernel)) ggX6_say_X6_puts
set_option maxRecDepth 20000 in
theorem ggX6_say_X6_appoints : GoodIn wsX6_say wsX6_appoints := goodIn_r _ [26, 2, 27, 28, 29, 5, 30, 31, 32, 33, 34, 35, 36, 37, 38, 39, 40, 41, 42, 43, 44, 45, 46, 47, 48, 49, 50, 51, 52, 53, 54, 55, 56, 57, 58, 59, 60, 61] (by decide +kernel) (by decide +kernel)
set_option maxRecDepth 20000 in
theorem gX6_say_X6_appoints : GoodIn wsX6_say (wsV RX6 112 RX6 yX6_appoints wsX6_appoints) := goodIn_app (goodIn_of _ (by decide +kernel)) ggX6_say_X6_appoints
set_option maxRecDepth 20000 in
theorem ggX6_say_X6_copies : GoodIn wsX6_say wsX6_copies := goodIn_r _ [15] (by decide +kernel) (by decide +kernel)
set_option maxRecDepth 20000 in
theorem gX6_say_X6_copies : GoodIn wsX6_say (va_wsS RX6 108 yX6_copies wsX6_copies) := goodIn_app (goodIn_of _ (by decide +kernel)) ggX6_say_X6_copies
theorem dX6_say_0 : decode cX6_say 0 = .ok (.iload_n 1, 1) := by decide +kernel
theorem dX6_say_1 : decode cX6_say 1 = .ok (.iconst 0, 1) := by decide +kernel
theorem dX6_say_2 : decode cX6_say 2 = .ok (.iconst 4, 1) := by decide +kernel
theorem dX6_say_3 : decode cX6_say 3 = .ok (.invokestatic 64, 3) := by decide +kernel
theorem dX6_say_6 : decode cX6_say 6 = .ok (.ifCond .eq 37, 3) := by decide +kernel
theorem dX6_say_9 : decode cX6_say 9 = .ok (.iload_n 2, 1) := by decide +kernel
theorem dX6_say_10 : decode cX6_say 10 = .ok (.iconst 0, 1) := by decide +kernel
theorem dX6_say_11 : decode cX6_say 11 = .ok (.bipush 11, 2) := by decide +kernel
theorem dX6_say_13 : decode cX6_say 13 = .ok (.invokestatic 64, 3) := by decide +kernel
theorem dX6_say_16 : decode cX6_say 16 = .ok (.ifCond .eq 27, 3) := by decide +kernel
theorem dX6_say_19 : decode cX6_say 19 = .ok (.iload_n 1, 1) := by decide +kernel
theorem dX6_say_20 : decode cX6_say 20 = .ok (.ifCond .eq 13, 3) := by decide +kernel
theorem dX6_say_23 : decode cX6_say 23 = .ok (.iload_n 3, 1) := by decide +kernel
theorem dX6_say_24 : decode cX6_say 24 = .ok (.iconst 0, 1) := by decide +kernel
theorem dX6_say_25 : decode cX6_say 25 = .ok (.bipush 11, 2) := by decide +kernel
theorem dX6_say_27 : decode cX6_say 27 = .ok (.invokestatic 64, 3) := by decide +kernel
theorem dX6_say_30 : decode cX6_say 30 = .ok (.ifCond .eq 13, 3) := by decide +kernel
theorem dX6_say_33 : decode cX6_say 33 = .ok (.iload 4, 2) := by decide +kernel
theorem dX6_say_35 : decode cX6_say 35 = .ok (.iconst 0, 1) := by decide +kernel
theorem dX6_say_36 : decode cX6_say 36 = .ok (.iconst 5, 1) := by decide +kernel
theorem dX6_say_37 : decode cX6_say 37 = .ok (.invokestatic 64, 3) := by decide +kernel
theorem dX6_say_40 : decode cX6_say 40 = .ok (.ifCond .ne 5, 3) := by decide +kernel
theorem dX6_say_43 : decode cX6_say 43 = .ok (.iconst (-1), 1) := by decide +kernel
theorem dX6_say_44 : decode cX6_say 44 = .ok (.ireturn, 1) := by decide +kernel
theorem dX6_say_45 : decode cX6_say 45 = .ok (.aload_n 0, 1) := by decide +kernel
theorem dX6_say_46 : decode cX6_say 46 = .ok (.getfield 7, 3) := by decide +kernel
theorem dX6_say_49 : decode cX6_say 49 = .ok (.iconst 2, 1) := by decide +kernel
theorem dX6_say_50 : decode cX6_say 50 = .ok (.iaload, 1) := by decide +kernel
theorem dX6_say_51 : decode cX6_say 51 = .ok (.bipush 9, 2) := by decide +kernel
theorem dX6_say_53 : decode cX6_say 53 = .ok (.if_icmp .ne 6, 3) := by decide +kernel
theorem dX6_say_56 : decode cX6_say 56 = .ok (.bipush (-3), 2) := by decide +kernel
theorem dX6_say_58 : decode cX6_say 58 = .ok (.ireturn, 1) := by decide +kernel
theorem dX6_say_59 : decode cX6_say 59 = .ok (.aload_n 0, 1) := by decide +kernel
theorem dX6_say_60 : decode cX6_say 60 = .ok (.invokevirtual 155, 3) := by decide +kernel
theorem dX6_say_63 : decode cX6_say 63 = .ok (.aload_n 0, 1) := by decide +kernel
theorem dX6_say_64 : decode cX6_say 64 = .ok (.invokevirtual 149, 3) := by decide +kernel
theorem dX6_say_67 : decode cX6_say 67 = .ok (.aload_n 0, 1) := by decide +kernel
theorem dX6_say_68 : decode cX6_say 68 = .ok (.getfield 31, 3) := by decide +kernel
theorem dX6_say_71 : decode cX6_say 71 = .ok (.iload_n 1, 1) := by decide +kernel
theorem dX6_say_72 : decode cX6_say 72 = .ok (.iload_n 2, 1) := by decide +kernel
theorem dX6_say_73 : decode cX6_say 73 = .ok (.iload_n 3, 1) := by decide +kernel
theorem dX6_say_74 : decode cX6_say 74 = .ok (.iload 4, 2) := by decide +kernel
theorem dX6_say_76 : decode cX6_say 76 = .ok (.invokestatic 60, 3) := by decide +kernel
theorem dX6_say_79 : decode cX6_say 79 = .ok (.aload_n 0, 1) := by decide +kernel
theorem dX6_say_80 : decode cX6_say 80 = .ok (.invokevirtual 112, 3) := by decide +kernel
theorem dX6_say_83 : decode cX6_say 83 = .ok (.aload_n 0, 1) := by decide +kernel
theorem dX6_say_84 : decode cX6_say 84 = .ok (.getfield 7, 3) := by decide +kernel
theorem dX6_say_87 : decode cX6_say 87 = .ok (.iconst 0, 1) := by decide +kernel
theorem dX6_say_88 : decode cX6_say 88 = .ok (.aload_n 0, 1) := by decide +kernel
theorem dX6_say_89 : decode cX6_say 89 = .ok (.getfield 31, 3) := by decide +kernel
theorem dX6_say_92 : decode cX6_say 92 = .ok (.iconst 0, 1) := by decide +kernel
theorem dX6_say_93 : decode cX6_say 93 = .ok (.invokestatic 108, 3) := by decide +kernel
theorem dX6_say_96 : decode cX6_say 96 = .ok (.aload_n 0, 1) := by decide +kernel
theorem dX6_say_97 : decode cX6_say 97 = .ok (.getfield 7, 3) := by decide +kernel
theorem dX6_say_100 : decode cX6_say 100 = .ok (.iconst 2, 1) := by decide +kernel
theorem dX6_say_101 : decode cX6_say 101 = .ok (.iaload, 1) := by decide +kernel
theorem dX6_say_102 : decode cX6_say 102 = .ok (.iconst 1, 1) := by decide +kernel
theorem dX6_say_103 : decode cX6_say 103 = .ok (.isub, 1) := by decide +kernel
theorem dX6_say_104 : decode cX6_say 104 = .ok (.ireturn, 1) := by decide +kernel
set_option maxRecDepth 20000 in
theorem ggX6_canBeWithdrawn_X6_has : GoodIn wsX6_canBeWithdrawn wsX6_has := goodIn_r _ [6] (by decide +kernel) (by decide +kernel)
set_option maxRecDepth 20000 in
theorem gX6_canBeWithdrawn_X6_has : GoodIn wsX6_canBeWithdrawn (va_wsS RX6 124 yX6_has wsX6_has) := goodIn_app (goodIn_of _ (by decide +kernel)) ggX6_canBeWithdrawn_X6_has
theorem dX6_canBeWithdrawn_0 : decode cX6_canBeWithdrawn 0 = .ok (.aload_n 0, 1) := by decide +kernel
theorem dX6_canBeWithdrawn_1 : decode cX6_canBeWithdrawn 1 = .ok (.getfield 31, 3) := by decide +kernel
theorem dX6_canBeWithdrawn_4 : decode cX6_canBeWithdrawn 4 = .ok (.iconst 3, 1) := by decide +kernel
theorem dX6_canBeWithdrawn_5 : decode cX6_canBeWithdrawn 5 = .ok (.iaload, 1) := by decide +kernel
theorem dX6_canBeWithdrawn_6 : decode cX6_canBeWithdrawn 6 = .ok (.iload_n 1, 1) := by decide +kernel
theorem dX6_canBeWithdrawn_7 : decode cX6_canBeWithdrawn 7 = .ok (.invokestatic 124, 3) := by decide +kernel
theorem dX6_canBeWithdrawn_10 : decode cX6_canBeWithdrawn 10 = .ok (.ifCond .ne 23, 3) := by decide +kernel
theorem dX6_canBeWithdrawn_13 : decode cX6_canBeWithdrawn 13 = .ok (.aload_n 0, 1) := by decide +kernel
theorem dX6_canBeWithdrawn_14 : decode cX6_canBeWithdrawn 14 = .ok (.getfield 31, 3) := by decide +kernel
theorem dX6_canBeWithdrawn_17 : decode cX6_canBeWithdrawn 17 = .ok (.bipush 40, 2) := by decide +kernel
theorem dX6_canBeWithdrawn_19 : decode cX6_canBeWithdrawn 19 = .ok (.iload_n 1, 1) := by decide +kernel
theorem dX6_canBeWithdrawn_20 : decode cX6_canBeWithdrawn 20 = .ok (.iadd, 1) := by decide +kernel
theorem dX6_canBeWithdrawn_21 : decode cX6_canBeWithdrawn 21 = .ok (.iaload, 1) := by decide +kernel
theorem dX6_canBeWithdrawn_22 : decode cX6_canBeWithdrawn 22 = .ok (.aload_n 0, 1) := by decide +kernel
theorem dX6_canBeWithdrawn_23 : decode cX6_canBeWithdrawn 23 = .ok (.getfield 105, 3) := by decide +kernel
theorem dX6_canBeWithdrawn_26 : decode cX6_canBeWithdrawn 26 = .ok (.if_icmp .ge 7, 3) := by decide +kernel
theorem dX6_canBeWithdrawn_29 : decode cX6_canBeWithdrawn 29 = .ok (.iconst 1, 1) := by decide +kernel
theorem dX6_canBeWithdrawn_30 : decode cX6_canBeWithdrawn 30 = .ok (.goto 4, 3) := by decide +kernel
theorem dX6_canBeWithdrawn_33 : decode cX6_canBeWithdrawn 33 = .ok (.iconst 0, 1) := by decide +kernel
theorem dX6_canBeWithdrawn_34 : decode cX6_canBeWithdrawn 34 = .ok (.ireturn, 1) := by decide +kernel
theorem dX6_withdraws_0 : decode cX6_withdraws 0 = .ok (.aload_n 0, 1) := by decide +kernel
theorem dX6_withdraws_1 : decode cX6_withdraws 1 = .ok (.getfield 31, 3) := by decide +kernel
theorem dX6_withdraws_4 : decode cX6_withdraws 4 = .ok (.iconst 3, 1) := by decide +kernel
theorem dX6_withdraws_5 : decode cX6_withdraws 5 = .ok (.dup2, 1) := by decide +kernel
theorem dX6_withdraws_6 : decode cX6_withdraws 6 = .ok (.iaload, 1) := by decide +kernel
theorem dX6_withdraws_7 : decode cX6_withdraws 7 = .ok (.iconst 1, 1) := by decide +kernel
theorem dX6_withdraws_8 : decode cX6_withdraws 8 = .ok (.iload_n 1, 1) := by decide +kernel
theorem dX6_withdraws_9 : decode cX6_withdraws 9 = .ok (.ishl, 1) := by decide +kernel
theorem dX6_withdraws_10 : decode cX6_withdraws 10 = .ok (.ior, 1) := by decide +kernel
theorem dX6_withdraws_11 : decode cX6_withdraws 11 = .ok (.iastore, 1) := by decide +kernel
theorem dX6_withdraws_12 : decode cX6_withdraws 12 = .ok (.aload_n 0, 1) := by decide +kernel
theorem dX6_withdraws_13 : decode cX6_withdraws 13 = .ok (.getfield 31, 3) := by decide +kernel
theorem dX6_withdraws_16 : decode cX6_withdraws 16 = .ok (.bipush 40, 2) := by decide +kernel
theorem dX6_withdraws_18 : decode cX6_withdraws 18 = .ok (.iload_n 1, 1) := by decide +kernel
theorem dX6_withdraws_19 : decode cX6_withdraws 19 = .ok (.iadd, 1) := by decide +kernel
theorem dX6_withdraws_20 : decode cX6_withdraws 20 = .ok (.iconst (-1), 1) := by decide +kernel
theorem dX6_withdraws_21 : decode cX6_withdraws 21 = .ok (.iastore, 1) := by decide +kernel
theorem dX6_withdraws_22 : decode cX6_withdraws 22 = .ok (.return_, 1) := by decide +kernel
set_option maxRecDepth 20000 in
theorem ggX6_withdraw_X6_isSaying : GoodIn wsX6_withdraw wsX6_isSaying := goodIn_r _ [7, 1, 8, 9, 6, 10, 43, 44, 45, 46, 47, 48, 49, 50, 51, 52, 53, 54, 55, 56, 57, 58, 59, 60, 61, 62, 63] (by decide +kernel) (by decide +kernel)
set_option maxRecDepth 20000 in
theorem gX6_withdraw_X6_isSaying : GoodIn wsX6_withdraw (wsV RX6 146 RX6 yX6_isSaying wsX6_isSaying) := goodIn_app (goodIn_of _ (by decide +kernel)) ggX6_withdraw_X6_isSaying
set_option maxRecDepth 20000 in
theorem ggX6_withdraw_X6_asItIs : GoodIn wsX6_withdraw wsX6_asItIs := goodIn_r _ [14, 2, 1, 15, 16, 6, 17, 43, 44, 45, 46, 47, 48, 49, 50, 51, 52, 53, 54, 55, 56, 57, 58, 59, 60, 61, 62, 63] (by decide +kernel) (by decide +kernel)
set_option maxRecDepth 20000 in
theorem gX6_withdraw_X6_asItIs : GoodIn wsX6_withdraw (wsV RX6 149 RX6 yX6_asItIs wsX6_asItIs) := goodIn_app (goodIn_of _ (by decide +kernel)) ggX6_withdraw_X6_asItIs
set_option maxRecDepth 20000 in
theorem ggX6_withdraw_X6_canBeWithdrawn : GoodIn wsX6_withdraw wsX6_canBeWithdrawn := goodIn_r _ [21, 2, 22, 23, 24, 6, 25, 43, 44, 45, 46, 47, 48, 49, 50, 51, 52, 53, 54, 55, 56, 57, 58, 59, 60, 61, 62, 63] (by decide +kernel) (by decide +kernel)
set_option maxRecDepth 20000 in
theorem gX6_withdraw_X6_canBeWithdrawn : GoodIn wsX6_withdraw (wsV RX6 161 RX6 yX6_canBeWithdrawn wsX6_canBeWithdrawn) := goodIn_app (goodIn_of _ (by decide +kernel)) ggX6_withdraw_X6_canBeWithdrawn
set_option maxRecDepth 20000 in
theorem ggX6_withdraw_X6_remembers : GoodIn wsX6_withdraw wsX6_remembers := goodIn_r _ [29, 30, 31, 1, 15, 16, 6, 17, 43, 44, 45, 46, 47, 48, 49, 50, 51, 52, 53, 54, 55, 56, 57, 58, 59, 60, 61, 62, 63] (by decide +kernel) (by decide +kernel)
set_option maxRecDepth 20000 in
theorem gX6_withdraw_X6_remembers : GoodIn wsX6_withdraw (wsV RX6 155 RX6 yX6_remembers wsX6_remembers) := goodIn_app (goodIn_of _ (by decide +kernel)) ggX6_withdraw_X6_remembers
set_option maxRecDepth 20000 in
theorem ggX6_withdraw_X6_withdraws : GoodIn wsX6_withdraw wsX6_withdraws := goodIn_r _ [35, 2, 43, 44, 45, 46, 47, 48, 49, 50, 51, 52, 53, 54, 55, 56, 57, 58, 59, 60, 61, 62, 63] (by decide +kernel) (by decide +kernel)
set_option maxRecDepth 20000 in
theorem gX6_withdraw_X6_withdraws : GoodIn wsX6_withdraw (wsV RX6 164 RX6 yX6_withdraws wsX6_withdraws) := goodIn_app (goodIn_of _ (by decide +kernel)) ggX6_withdraw_X6_withdraws
set_option maxRecDepth 20000 in
theorem ggX6_withdraw_X6_copies : GoodIn wsX6_withdraw wsX6_copies := goodIn_r _ [17] (by decide +kernel) (by decide +kernel)
set_option maxRecDepth 20000 in
theorem gX6_withdraw_X6_copies : GoodIn wsX6_withdraw (va_wsS RX6 108 yX6_copies wsX6_copies) := goodIn_app (goodIn_of _ (by decide +kernel)) ggX6_withdraw_X6_copies
set_option maxRecDepth 20000 in
theorem ggX6_withdraw_X6_police : GoodIn wsX6_withdraw wsX6_police := goodIn_r _ [39, 2, 43, 44, 45, 46, 47, 48, 49, 50, 51, 52, 53, 54, 55, 56, 57, 58, 59, 60, 61, 62, 63] (by decide +kernel) (by decide +kernel)
set_option maxRecDepth 20000 in
theorem gX6_withdraw_X6_police : GoodIn wsX6_withdraw (wsV RX6 168 RX6 yX6_police wsX6_police) := goodIn_app (goodIn_of _ (by decide +kernel)) ggX6_withdraw_X6_police
set_option maxRecDepth 20000 in
theorem ggX6_withdraw_X6_bits : GoodIn wsX6_withdraw wsX6_bits := goodIn_r _ [42] (by decide +kernel) (by decide +kernel)
set_option maxRecDepth 20000 in
theorem gX6_withdraw_X6_bits : GoodIn wsX6_withdraw (va_wsS RX6 171 yX6_bits wsX6_bits) := goodIn_app (goodIn_of _ (by decide +kernel)) ggX6_withdraw_X6_bits
theorem dX6_withdraw_0 : decode cX6_withdraw 0 = .ok (.aload_n 0, 1) := by decide +kernel
theorem dX6_withdraw_1 : decode cX6_withdraw 1 = .ok (.iload_n 1, 1) := by decide +kernel
theorem dX6_withdraw_2 : decode cX6_withdraw 2 = .ok (.invokevirtual 146, 3) := by decide +kernel
theorem dX6_withdraw_5 : decode cX6_withdraw 5 = .ok (.ifCond .ne 5, 3) := by decide +kernel
theorem dX6_withdraw_8 : decode cX6_withdraw 8 = .ok (.iconst (-1), 1) := by decide +kernel
theorem dX6_withdraw_9 : decode cX6_withdraw 9 = .ok (.ireturn, 1) := by decide +kernel
theorem dX6_withdraw_10 : decode cX6_withdraw 10 = .ok (.aload_n 0, 1) := by decide +kernel
theorem dX6_withdraw_11 : decode cX6_withdraw 11 = .ok (.invokevirtual 149, 3) := by decide +kernel
theorem dX6_withdraw_14 : decode cX6_withdraw 14 = .ok (.aload_n 0, 1) := by decide +kernel
theorem dX6_withdraw_15 : decode cX6_withdraw 15 = .ok (.iload_n 1, 1) := by decide +kernel
theorem dX6_withdraw_16 : decode cX6_withdraw 16 = .ok (.invokevirtual 161, 3) := by decide +kernel
theorem dX6_withdraw_19 : decode cX6_withdraw 19 = .ok (.ifCond .ne 6, 3) := by decide +kernel
theorem dX6_withdraw_22 : decode cX6_withdraw 22 = .ok (.bipush (-2), 2) := by decide +kernel
theorem dX6_withdraw_24 : decode cX6_withdraw 24 = .ok (.ireturn, 1) := by decide +kernel
theorem dX6_withdraw_25 : decode cX6_withdraw 25 = .ok (.aload_n 0, 1) := by decide +kernel
theorem dX6_withdraw_26 : decode cX6_withdraw 26 = .ok (.invokevirtual 155, 3) := by decide +kernel
theorem dX6_withdraw_29 : decode cX6_withdraw 29 = .ok (.aload_n 0, 1) := by decide +kernel
theorem dX6_withdraw_30 : decode cX6_withdraw 30 = .ok (.iload_n 1, 1) := by decide +kernel
theorem dX6_withdraw_31 : decode cX6_withdraw 31 = .ok (.invokevirtual 164, 3) := by decide +kernel
theorem dX6_withdraw_34 : decode cX6_withdraw 34 = .ok (.aload_n 0, 1) := by decide +kernel
theorem dX6_withdraw_35 : decode cX6_withdraw 35 = .ok (.getfield 7, 3) := by decide +kernel
theorem dX6_withdraw_38 : decode cX6_withdraw 38 = .ok (.iconst 0, 1) := by decide +kernel
theorem dX6_withdraw_39 : decode cX6_withdraw 39 = .ok (.aload_n 0, 1) := by decide +kernel
theorem dX6_withdraw_40 : decode cX6_withdraw 40 = .ok (.getfield 31, 3) := by decide +kernel
theorem dX6_withdraw_43 : decode cX6_withdraw 43 = .ok (.iconst 0, 1) := by decide +kernel
theorem dX6_withdraw_44 : decode cX6_withdraw 44 = .ok (.invokestatic 108, 3) := by decide +kernel
theorem dX6_withdraw_47 : decode cX6_withdraw 47 = .ok (.aload_n 0, 1) := by decide +kernel
theorem dX6_withdraw_48 : decode cX6_withdraw 48 = .ok (.invokevirtual 168, 3) := by decide +kernel
theorem dX6_withdraw_51 : decode cX6_withdraw 51 = .ok (.invokestatic 171, 3) := by decide +kernel
theorem dX6_withdraw_54 : decode cX6_withdraw 54 = .ok (.ireturn, 1) := by decide +kernel
set_option maxRecDepth 20000 in
theorem ggX6_turn_X6_isFact : GoodIn wsX6_turn wsX6_isFact := goodIn_r _ [6, 7, 8, 5, 9] (by decide +kernel) (by decide +kernel)
set_option maxRecDepth 20000 in
theorem gX6_turn_X6_isFact : GoodIn wsX6_turn (va_wsS RX6 152 yX6_isFact wsX6_isFact) := goodIn_app (goodIn_of _ (by decide +kernel)) ggX6_turn_X6_isFact
set_option maxRecDepth 20000 in
theorem ggX6_turn_X6_remembers : GoodIn wsX6_turn wsX6_remembers := goodIn_r _ [13, 14, 15, 2, 16, 17, 5, 18, 48, 49, 50, 51, 52, 53, 54, 55, 56, 57, 58, 59, 60, 61, 62, 63, 64, 65, 66, 67, 68] (by decide +kernel) (by decide +kernel)
set_option maxRecDepth 20000 in
theorem gX6_turn_X6_remembers : GoodIn wsX6_turn (wsV RX6 155 RX6 yX6_remembers wsX6_remembers) := goodIn_app (goodIn_of _ (by decide +kernel)) ggX6_turn_X6_remembers
set_option maxRecDepth 20000 in
theorem ggX6_turn_X6_asItIs : GoodIn wsX6_turn wsX6_asItIs := goodIn_r _ [22, 1, 2, 16, 17, 5, 18, 48, 49, 50, 51, 52, 53, 54, 55, 56, 57, 58, 59, 60, 61, 62, 63, 64, 65, 66, 67, 68] (by decide +kernel) (by decide +kernel)
set_option maxRecDepth 20000 in
theorem gX6_turn_X6_asItIs : GoodIn wsX6_turn (wsV RX6 149 RX6 yX6_asItIs wsX6_asItIs) := goodIn_app (goodIn_of _ (by decide +kernel)) ggX6_turn_X6_asItIs
set_option maxRecDepth 20000 in
theorem ggX6_turn_X6_appoints : GoodIn wsX6_turn wsX6_appoints := goodIn_r _ [26, 1, 27, 28, 29, 5, 30, 31, 32, 33, 34, 35, 36, 37, 38, 39, 40, 48, 49, 50, 51, 52, 53, 54, 55, 56, 57, 58, 59, 60, 61, 62, 63, 64, 65, 66, 67, 68] (by decide +kernel) (by decide +kernel)
set_option maxRecDepth 20000 in
theorem gX6_turn_X6_appoints : GoodIn wsX6_turn (wsV RX6 112 RX6 yX6_appoints wsX6_appoints) := goodIn_app (goodIn_of _ (by decide +kernel)) ggX6_turn_X6_appoints
set_option maxRecDepth 20000 in
theorem ggX6_turn_X6_copies : GoodIn wsX6_turn wsX6_copies := goodIn_r _ [18] (by decide +kernel) (by decide +kernel)
set_option maxRecDepth 20000 in
theorem gX6_turn_X6_copies : GoodIn wsX6_turn (va_wsS RX6 108 yX6_copies wsX6_copies) := goodIn_app (goodIn_of _ (by decide +kernel)) ggX6_turn_X6_copies
set_option maxRecDepth 20000 in
theorem ggX6_turn_X6_police : GoodIn wsX6_turn wsX6_police := goodIn_r _ [44, 1, 48, 49, 50, 51, 52, 53, 54, 55, 56, 57, 58, 59, 60, 61, 62, 63, 64, 65, 66, 67, 68] (by decide +kernel) (by decide +kernel)
set_option maxRecDepth 20000 in
theorem gX6_turn_X6_police : GoodIn wsX6_turn (wsV RX6 168 RX6 yX6_police wsX6_police) := goodIn_app (goodIn_of _ (by decide +kernel)) ggX6_turn_X6_police
set_option maxRecDepth 20000 in
theorem ggX6_turn_X6_bits : GoodIn wsX6_turn wsX6_bits := goodIn_r _ [47] (by decide +kernel) (by decide +kernel)
set_option maxRecDepth 20000 in
theorem gX6_turn_X6_bits : GoodIn wsX6_turn (va_wsS RX6 171 yX6_bits wsX6_bits) := goodIn_app (goodIn_of _ (by decide +kernel)) ggX6_turn_X6_bits
theorem dX6_turn_0 : decode cX6_turn 0 = .ok (.iload_n 1, 1) := by decide +kernel
theorem dX6_turn_1 : decode cX6_turn 1 = .ok (.invokestatic 152, 3) := by decide +kernel
theorem dX6_turn_4 : decode cX6_turn 4 = .ok (.ifCond .ne 5, 3) := by decide +kernel
theorem dX6_turn_7 : decode cX6_turn 7 = .ok (.iconst (-1), 1) := by decide +kernel
theorem dX6_turn_8 : decode cX6_turn 8 = .ok (.ireturn, 1) := by decide +kernel
theorem dX6_turn_9 : decode cX6_turn 9 = .ok (.aload_n 0, 1) := by decide +kernel
theorem dX6_turn_10 : decode cX6_turn 10 = .ok (.invokevirtual 155, 3) := by decide +kernel
theorem dX6_turn_13 : decode cX6_turn 13 = .ok (.aload_n 0, 1) := by decide +kernel
theorem dX6_turn_14 : decode cX6_turn 14 = .ok (.invokevirtual 149, 3) := by decide +kernel
theorem dX6_turn_17 : decode cX6_turn 17 = .ok (.aload_n 0, 1) := by decide +kernel
theorem dX6_turn_18 : decode cX6_turn 18 = .ok (.getfield 31, 3) := by decide +kernel
theorem dX6_turn_21 : decode cX6_turn 21 = .ok (.iconst 0, 1) := by decide +kernel
theorem dX6_turn_22 : decode cX6_turn 22 = .ok (.dup2, 1) := by decide +kernel
theorem dX6_turn_23 : decode cX6_turn 23 = .ok (.iaload, 1) := by decide +kernel
theorem dX6_turn_24 : decode cX6_turn 24 = .ok (.iconst 1, 1) := by decide +kernel
theorem dX6_turn_25 : decode cX6_turn 25 = .ok (.iload_n 1, 1) := by decide +kernel
theorem dX6_turn_26 : decode cX6_turn 26 = .ok (.ishl, 1) := by decide +kernel
theorem dX6_turn_27 : decode cX6_turn 27 = .ok (.ixor, 1) := by decide +kernel
theorem dX6_turn_28 : decode cX6_turn 28 = .ok (.iastore, 1) := by decide +kernel
theorem dX6_turn_29 : decode cX6_turn 29 = .ok (.aload_n 0, 1) := by decide +kernel
theorem dX6_turn_30 : decode cX6_turn 30 = .ok (.invokevirtual 112, 3) := by decide +kernel
theorem dX6_turn_33 : decode cX6_turn 33 = .ok (.aload_n 0, 1) := by decide +kernel
theorem dX6_turn_34 : decode cX6_turn 34 = .ok (.getfield 7, 3) := by decide +kernel
theorem dX6_turn_37 : decode cX6_turn 37 = .ok (.iconst 0, 1) := by decide +kernel
theorem dX6_turn_38 : decode cX6_turn 38 = .ok (.aload_n 0, 1) := by decide +kernel
theorem dX6_turn_39 : decode cX6_turn 39 = .ok (.getfield 31, 3) := by decide +kernel
theorem dX6_turn_42 : decode cX6_turn 42 = .ok (.iconst 0, 1) := by decide +kernel
theorem dX6_turn_43 : decode cX6_turn 43 = .ok (.invokestatic 108, 3) := by decide +kernel
theorem dX6_turn_46 : decode cX6_turn 46 = .ok (.aload_n 0, 1) := by decide +kernel
theorem dX6_turn_47 : decode cX6_turn 47 = .ok (.invokevirtual 168, 3) := by decide +kernel
theorem dX6_turn_50 : decode cX6_turn 50 = .ok (.invokestatic 171, 3) := by decide +kernel
theorem dX6_turn_53 : decode cX6_turn 53 = .ok (.ireturn, 1) := by decide +kernel
set_option maxRecDepth 20000 in
theorem ggX6_undo_X6_copies : GoodIn wsX6_undo wsX6_copies := goodIn_r _ [7] (by decide +kernel) (by decide +kernel)
set_option maxRecDepth 20000 in
theorem gX6_undo_X6_copies : GoodIn wsX6_undo (va_wsS RX6 108 yX6_copies wsX6_copies) := goodIn_app (goodIn_of _ (by decide +kernel)) ggX6_undo_X6_copies
theorem dX6_undo_0 : decode cX6_undo 0 = .ok (.aload_n 0, 1) := by decide +kernel
theorem dX6_undo_1 : decode cX6_undo 1 = .ok (.getfield 115, 3) := by decide +kernel
theorem dX6_undo_4 : decode cX6_undo 4 = .ok (.ifCond .ne 6, 3) := by decide +kernel
theorem dX6_undo_7 : decode cX6_undo 7 = .ok (.bipush (-2), 2) := by decide +kernel
theorem dX6_undo_9 : decode cX6_undo 9 = .ok (.ireturn, 1) := by decide +kernel
theorem dX6_undo_10 : decode cX6_undo 10 = .ok (.aload_n 0, 1) := by decide +kernel
theorem dX6_undo_11 : decode cX6_undo 11 = .ok (.dup, 1) := by decide +kernel
theorem dX6_undo_12 : decode cX6_undo 12 = .ok (.getfield 115, 3) := by decide +kernel
theorem dX6_undo_15 : decode cX6_undo 15 = .ok (.iconst 1, 1) := by decide +kernel
theorem dX6_undo_16 : decode cX6_undo 16 = .ok (.isub, 1) := by decide +kernel
theorem dX6_undo_17 : decode cX6_undo 17 = .ok (.putfield 115, 3) := by decide +kernel
theorem dX6_undo_20 : decode cX6_undo 20 = .ok (.aload_n 0, 1) := by decide +kernel
theorem dX6_undo_21 : decode cX6_undo 21 = .ok (.getfield 7, 3) := by decide +kernel
theorem dX6_undo_24 : decode cX6_undo 24 = .ok (.iconst 0, 1) := by decide +kernel
theorem dX6_undo_25 : decode cX6_undo 25 = .ok (.aload_n 0, 1) := by decide +kernel
theorem dX6_undo_26 : decode cX6_undo 26 = .ok (.getfield 13, 3) := by decide +kernel
theorem dX6_undo_29 : decode cX6_undo 29 = .ok (.bipush 49, 2) := by decide +kernel
theorem dX6_undo_31 : decode cX6_undo 31 = .ok (.aload_n 0, 1) := by decide +kernel
theorem dX6_undo_32 : decode cX6_undo 32 = .ok (.getfield 115, 3) := by decide +kernel
theorem dX6_undo_35 : decode cX6_undo 35 = .ok (.imul, 1) := by decide +kernel
theorem dX6_undo_36 : decode cX6_undo 36 = .ok (.invokestatic 108, 3) := by decide +kernel
theorem dX6_undo_39 : decode cX6_undo 39 = .ok (.aload_n 0, 1) := by decide +kernel
theorem dX6_undo_40 : decode cX6_undo 40 = .ok (.getfield 115, 3) := by decide +kernel
theorem dX6_undo_43 : decode cX6_undo 43 = .ok (.ireturn, 1) := by decide +kernel
set_option maxRecDepth 20000 in
theorem ggX6_behind_X6_in : GoodIn wsX6_behind wsX6_in := goodIn_r _ [4] (by decide +kernel) (by decide +kernel)
set_option maxRecDepth 20000 in
theorem gX6_behind_X6_in : GoodIn wsX6_behind (va_wsS RX6 64 yX6_in wsX6_in) := goodIn_app (goodIn_of _ (by decide +kernel)) ggX6_behind_X6_in
set_option maxRecDepth 20000 in
theorem ggX6_behind_X6_asItIs : GoodIn wsX6_behind wsX6_asItIs := goodIn_r _ [8, 9, 10, 11, 12, 3, 13, 39, 40, 41, 42, 43, 44, 45, 46, 47, 48, 49, 50, 51, 52, 53, 54, 55, 56, 57, 58, 59] (by decide +kernel) (by decide +kernel)
set_option maxRecDepth 20000 in
theorem gX6_behind_X6_asItIs : GoodIn wsX6_behind (wsV RX6 149 RX6 yX6_asItIs wsX6_asItIs) := goodIn_app (goodIn_of _ (by decide +kernel)) ggX6_behind_X6_asItIs
set_option maxRecDepth 20000 in
theorem ggX6_behind_X6_goes : GoodIn wsX6_behind wsX6_goes := goodIn_r _ [17, 18, 9, 19, 20, 21, 22, 23, 3, 24, 25, 26, 27, 28, 29, 30, 31, 32, 33, 34, 39, 40, 41, 42, 43, 44, 45, 46, 47, 48, 49, 50, 51, 52, 53, 54, 55, 56, 57, 58, 59] (by decide +kernel) (by decide +kernel)
set_option maxRecDepth 20000 in
theorem gX6_behind_X6_goes : GoodIn wsX6_behind (wsV RX6 158 RX6 yX6_goes wsX6_goes) := goodIn_app (goodIn_of _ (by decide +kernel)) ggX6_behind_X6_goes
set_option maxRecDepth 20000 in
theorem ggX6_behind_X6_police : GoodIn wsX6_behind wsX6_police := goodIn_r _ [38, 9, 39, 40, 41, 42, 43, 44, 45, 46, 47, 48, 49, 50, 51, 52, 53, 54, 55, 56, 57, 58, 59] (by decide +kernel) (by decide +kernel)
set_option maxRecDepth 20000 in
theorem gX6_behind_X6_police : GoodIn wsX6_behind (wsV RX6 168 RX6 yX6_police wsX6_police) := goodIn_app (goodIn_of _ (by decide +kernel)) ggX6_behind_X6_police
theorem dX6_behind_0 : decode cX6_behind 0 = .ok (.iload_n 1, 1) := by decide +kernel
theorem dX6_behind_1 : decode cX6_behind 1 = .ok (.iconst 0, 1) := by decide +kernel
theorem dX6_behind_2 : decode cX6_behind 2 = .ok (.bipush 60, 2) := by decide +kernel
theorem dX6_behind_4 : decode cX6_behind 4 = .ok (.invokestatic 64, 3) := by decide +kernel
theorem dX6_behind_7 : decode cX6_behind 7 = .ok (.ifCond .ne 5, 3) := by decide +kernel
theorem dX6_behind_10 : decode cX6_behind 10 = .ok (.iconst (-1), 1) := by decide +kernel
theorem dX6_behind_11 : decode cX6_behind 11 = .ok (.ireturn, 1) := by decide +kernel
theorem dX6_behind_12 : decode cX6_behind 12 = .ok (.aload_n 0, 1) := by decide +kernel
theorem dX6_behind_13 : decode cX6_behind 13 = .ok (.invokevirtual 149, 3) := by decide +kernel
theorem dX6_behind_16 : decode cX6_behind 16 = .ok (.iconst 0, 1) := by decide +kernel
theorem dX6_behind_17 : decode cX6_behind 17 = .ok (.istore_n 2, 1) := by decide +kernel
theorem dX6_behind_18 : decode cX6_behind 18 = .ok (.iload_n 2, 1) := by decide +kernel
theorem dX6_behind_19 : decode cX6_behind 19 = .ok (.iload_n 1, 1) := by decide +kernel
theorem dX6_behind_20 : decode cX6_behind 20 = .ok (.if_icmp .ge 13, 3) := by decide +kernel
theorem dX6_behind_23 : decode cX6_behind 23 = .ok (.aload_n 0, 1) := by decide +kernel
theorem dX6_behind_24 : decode cX6_behind 24 = .ok (.invokevirtual 158, 3) := by decide +kernel
theorem dX6_behind_27 : decode cX6_behind 27 = .ok (.iinc 2 1, 3) := by decide +kernel
theorem dX6_behind_30 : decode cX6_behind 30 = .ok (.goto (-12), 3) := by decide +kernel
theorem dX6_behind_33 : decode cX6_behind 33 = .ok (.aload_n 0, 1) := by decide +kernel
theorem dX6_behind_34 : decode cX6_behind 34 = .ok (.invokevirtual 168, 3) := by decide +kernel
theorem dX6_behind_37 : decode cX6_behind 37 = .ok (.ireturn, 1) := by decide +kernel
set_option maxRecDepth 20000 in
theorem ggX6_fall_X6_in : GoodIn wsX6_fall wsX6_in := goodIn_r _ [5] (by decide +kernel) (by decide +kernel)
set_option maxRecDepth 20000 in
theorem gX6_fall_X6_in : GoodIn wsX6_fall (va_wsS RX6 64 yX6_in wsX6_in) := goodIn_app (goodIn_of _ (by decide +kernel)) ggX6_fall_X6_in
set_option maxRecDepth 20000 in
theorem ggX6_fall_X6_asItIs : GoodIn wsX6_fall wsX6_asItIs := goodIn_r _ [9, 10, 11, 12, 13, 4, 14, 35, 36, 37, 38, 39, 40, 41, 42, 43, 44, 45, 46, 47, 48, 49, 50, 51, 52, 53, 54, 55] (by decide +kernel) (by decide +kernel)
set_option maxRecDepth 20000 in
theorem gX6_fall_X6_asItIs : GoodIn wsX6_fall (wsV RX6 149 RX6 yX6_asItIs wsX6_asItIs) := goodIn_app (goodIn_of _ (by decide +kernel)) ggX6_fall_X6_asItIs
set_option maxRecDepth 20000 in
theorem ggX6_fall_X6_goes : GoodIn wsX6_fall wsX6_goes := goodIn_r _ [18, 1, 10, 19, 20, 21, 22, 23, 4, 24, 25, 26, 27, 28, 29, 30, 31, 32, 33, 34, 35, 36, 37, 38, 39, 40, 41, 42, 43, 44, 45, 46, 47, 48, 49, 50, 51, 52, 53, 54, 55] (by decide +kernel) (by decide +kernel)
set_option maxRecDepth 20000 in
theorem gX6_fall_X6_goes : GoodIn wsX6_fall (wsV RX6 158 RX6 yX6_goes wsX6_goes) := goodIn_app (goodIn_of _ (by decide +kernel)) ggX6_fall_X6_goes
theorem dX6_fall_0 : decode cX6_fall 0 = .ok (.iload_n 1, 1) := by decide +kernel
theorem dX6_fall_1 : decode cX6_fall 1 = .ok (.iconst 0, 1) := by decide +kernel
theorem dX6_fall_2 : decode cX6_fall 2 = .ok (.iconst 1, 1) := by decide +kernel
theorem dX6_fall_3 : decode cX6_fall 3 = .ok (.invokestatic 64, 3) := by decide +kernel
theorem dX6_fall_6 : decode cX6_fall 6 = .ok (.ifCond .ne 5, 3) := by decide +kernel
theorem dX6_fall_9 : decode cX6_fall 9 = .ok (.iconst (-1), 1) := by decide +kernel
theorem dX6_fall_10 : decode cX6_fall 10 = .ok (.ireturn, 1) := by decide +kernel
theorem dX6_fall_11 : decode cX6_fall 11 = .ok (.aload_n 0, 1) := by decide +kernel
theorem dX6_fall_12 : decode cX6_fall 12 = .ok (.invokevirtual 149, 3) := by decide +kernel
theorem dX6_fall_15 : decode cX6_fall 15 = .ok (.iconst 1, 1) := by decide +kernel
theorem dX6_fall_16 : decode cX6_fall 16 = .ok (.istore_n 2, 1) := by decide +kernel
theorem dX6_fall_17 : decode cX6_fall 17 = .ok (.iload_n 2, 1) := by decide +kernel
theorem dX6_fall_18 : decode cX6_fall 18 = .ok (.bipush 60, 2) := by decide +kernel
theorem dX6_fall_20 : decode cX6_fall 20 = .ok (.if_icmp .gt 33, 3) := by decide +kernel
theorem dX6_fall_23 : decode cX6_fall 23 = .ok (.aload_n 0, 1) := by decide +kernel
theorem dX6_fall_24 : decode cX6_fall 24 = .ok (.invokevirtual 158, 3) := by decide +kernel
theorem dX6_fall_27 : decode cX6_fall 27 = .ok (.aload_n 0, 1) := by decide +kernel
theorem dX6_fall_28 : decode cX6_fall 28 = .ok (.getfield 137, 3) := by decide +kernel
theorem dX6_fall_31 : decode cX6_fall 31 = .ok (.ifCond .lt 16, 3) := by decide +kernel
theorem dX6_fall_34 : decode cX6_fall 34 = .ok (.iload_n 1, 1) := by decide +kernel
theorem dX6_fall_35 : decode cX6_fall 35 = .ok (.ifCond .ne 10, 3) := by decide +kernel
theorem dX6_fall_38 : decode cX6_fall 38 = .ok (.aload_n 0, 1) := by decide +kernel
theorem dX6_fall_39 : decode cX6_fall 39 = .ok (.getfield 137, 3) := by decide +kernel
theorem dX6_fall_42 : decode cX6_fall 42 = .ok (.goto 4, 3) := by decide +kernel
theorem dX6_fall_45 : decode cX6_fall 45 = .ok (.iload_n 2, 1) := by decide +kernel
theorem dX6_fall_46 : decode cX6_fall 46 = .ok (.ireturn, 1) := by decide +kernel
