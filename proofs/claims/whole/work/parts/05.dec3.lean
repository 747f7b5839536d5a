theorem dX9_size_6 : decode cX9_size 6 = .ok (.goto 4, 3) := by decide +kernel
theorem dX9_size_9 : decode cX9_size 9 = .ok (.iload_n 0, 1) := by decide +kernel
theorem dX9_size_10 : decode cX9_size 10 = .ok (.ireturn, 1) := by decide +kernel
set_option maxRecDepth 20000 in
theorem ggX9_isCell_X9_isBetween : GoodIn wsX9_isCell wsX9_isBetween := goodIn_r _ [6] (by decide +kernel) (by decide +kernel)
set_option maxRecDepth 20000 in
theorem gX9_isCell_X9_isBetween : GoodIn wsX9_isCell (va_wsS RX9 54 yX9_isBetween wsX9_isBetween) := goodIn_app (goodIn_of _ (by decide +kernel)) ggX9_isCell_X9_isBetween
theorem dX9_isCell_0 : decode cX9_isCell 0 = .ok (.iload_n 1, 1) := by decide +kernel
theorem dX9_isCell_1 : decode cX9_isCell 1 = .ok (.iconst 0, 1) := by decide +kernel
theorem dX9_isCell_2 : decode cX9_isCell 2 = .ok (.aload_n 0, 1) := by decide +kernel
theorem dX9_isCell_3 : decode cX9_isCell 3 = .ok (.getfield 48, 3) := by decide +kernel
theorem dX9_isCell_6 : decode cX9_isCell 6 = .ok (.iconst 1, 1) := by decide +kernel
theorem dX9_isCell_7 : decode cX9_isCell 7 = .ok (.isub, 1) := by decide +kernel
theorem dX9_isCell_8 : decode cX9_isCell 8 = .ok (.invokestatic 54, 3) := by decide +kernel
theorem dX9_isCell_11 : decode cX9_isCell 11 = .ok (.ifCond .eq 21, 3) := by decide +kernel
theorem dX9_isCell_14 : decode cX9_isCell 14 = .ok (.iload_n 2, 1) := by decide +kernel
theorem dX9_isCell_15 : decode cX9_isCell 15 = .ok (.iconst 0, 1) := by decide +kernel
theorem dX9_isCell_16 : decode cX9_isCell 16 = .ok (.aload_n 0, 1) := by decide +kernel
theorem dX9_isCell_17 : decode cX9_isCell 17 = .ok (.getfield 51, 3) := by decide +kernel
theorem dX9_isCell_20 : decode cX9_isCell 20 = .ok (.iconst 1, 1) := by decide +kernel
theorem dX9_isCell_21 : decode cX9_isCell 21 = .ok (.isub, 1) := by decide +kernel
theorem dX9_isCell_22 : decode cX9_isCell 22 = .ok (.invokestatic 54, 3) := by decide +kernel
theorem dX9_isCell_25 : decode cX9_isCell 25 = .ok (.ifCond .eq 7, 3) := by decide +kernel
theorem dX9_isCell_28 : decode cX9_isCell 28 = .ok (.iconst 1, 1) := by decide +kernel
theorem dX9_isCell_29 : decode cX9_isCell 29 = .ok (.goto 4, 3) := by decide +kernel
theorem dX9_isCell_32 : decode cX9_isCell 32 = .ok (.iconst 0, 1) := by decide +kernel
theorem dX9_isCell_33 : decode cX9_isCell 33 = .ok (.ireturn, 1) := by decide +kernel
set_option maxRecDepth 20000 in
theorem ggX9_resize_X9_isBetween : GoodIn wsX9_resize wsX9_isBetween := goodIn_r _ [8] (by decide +kernel) (by decide +kernel)
set_option maxRecDepth 20000 in
theorem gX9_resize_X9_isBetween : GoodIn wsX9_resize (va_wsS RX9 54 yX9_isBetween wsX9_isBetween) := goodIn_app (goodIn_of _ (by decide +kernel)) ggX9_resize_X9_isBetween
theorem dX9_resize_0 : decode cX9_resize 0 = .ok (.iload_n 1, 1) := by decide +kernel
theorem dX9_resize_1 : decode cX9_resize 1 = .ok (.iconst 3, 1) := by decide +kernel
theorem dX9_resize_2 : decode cX9_resize 2 = .ok (.bipush 10, 2) := by decide +kernel
theorem dX9_resize_4 : decode cX9_resize 4 = .ok (.invokestatic 54, 3) := by decide +kernel
theorem dX9_resize_7 : decode cX9_resize 7 = .ok (.ifCond .eq 13, 3) := by decide +kernel
theorem dX9_resize_10 : decode cX9_resize 10 = .ok (.iload_n 2, 1) := by decide +kernel
theorem dX9_resize_11 : decode cX9_resize 11 = .ok (.iconst 4, 1) := by decide +kernel
theorem dX9_resize_12 : decode cX9_resize 12 = .ok (.bipush 16, 2) := by decide +kernel
theorem dX9_resize_14 : decode cX9_resize 14 = .ok (.invokestatic 54, 3) := by decide +kernel
theorem dX9_resize_17 : decode cX9_resize 17 = .ok (.ifCond .ne 6, 3) := by decide +kernel
theorem dX9_resize_20 : decode cX9_resize 20 = .ok (.bipush (-4), 2) := by decide +kernel
theorem dX9_resize_22 : decode cX9_resize 22 = .ok (.ireturn, 1) := by decide +kernel
theorem dX9_resize_23 : decode cX9_resize 23 = .ok (.aload_n 0, 1) := by decide +kernel
theorem dX9_resize_24 : decode cX9_resize 24 = .ok (.iload_n 1, 1) := by decide +kernel
theorem dX9_resize_25 : decode cX9_resize 25 = .ok (.putfield 48, 3) := by decide +kernel
theorem dX9_resize_28 : decode cX9_resize 28 = .ok (.aload_n 0, 1) := by decide +kernel
theorem dX9_resize_29 : decode cX9_resize 29 = .ok (.iload_n 2, 1) := by decide +kernel
theorem dX9_resize_30 : decode cX9_resize 30 = .ok (.putfield 51, 3) := by decide +kernel
theorem dX9_resize_33 : decode cX9_resize 33 = .ok (.aload_n 0, 1) := by decide +kernel
theorem dX9_resize_34 : decode cX9_resize 34 = .ok (.iconst 0, 1) := by decide +kernel
theorem dX9_resize_35 : decode cX9_resize 35 = .ok (.putfield 58, 3) := by decide +kernel
theorem dX9_resize_38 : decode cX9_resize 38 = .ok (.iconst 0, 1) := by decide +kernel
theorem dX9_resize_39 : decode cX9_resize 39 = .ok (.istore_n 3, 1) := by decide +kernel
theorem dX9_resize_40 : decode cX9_resize 40 = .ok (.iload_n 3, 1) := by decide +kernel
theorem dX9_resize_41 : decode cX9_resize 41 = .ok (.sipush 160, 3) := by decide +kernel
theorem dX9_resize_44 : decode cX9_resize 44 = .ok (.if_icmp .ge 16, 3) := by decide +kernel
theorem dX9_resize_47 : decode cX9_resize 47 = .ok (.aload_n 0, 1) := by decide +kernel
theorem dX9_resize_48 : decode cX9_resize 48 = .ok (.getfield 25, 3) := by decide +kernel
theorem dX9_resize_51 : decode cX9_resize 51 = .ok (.iload_n 3, 1) := by decide +kernel
theorem dX9_resize_52 : decode cX9_resize 52 = .ok (.iconst 0, 1) := by decide +kernel
theorem dX9_resize_53 : decode cX9_resize 53 = .ok (.iastore, 1) := by decide +kernel
theorem dX9_resize_54 : decode cX9_resize 54 = .ok (.iinc 3 1, 3) := by decide +kernel
theorem dX9_resize_57 : decode cX9_resize 57 = .ok (.goto (-17), 3) := by decide +kernel
theorem dX9_resize_60 : decode cX9_resize 60 = .ok (.aload_n 0, 1) := by decide +kernel
theorem dX9_resize_61 : decode cX9_resize 61 = .ok (.getfield 48, 3) := by decide +kernel
theorem dX9_resize_64 : decode cX9_resize 64 = .ok (.aload_n 0, 1) := by decide +kernel
theorem dX9_resize_65 : decode cX9_resize 65 = .ok (.getfield 51, 3) := by decide +kernel
theorem dX9_resize_68 : decode cX9_resize 68 = .ok (.imul, 1) := by decide +kernel
theorem dX9_resize_69 : decode cX9_resize 69 = .ok (.ireturn, 1) := by decide +kernel
set_option maxRecDepth 20000 in
theorem ggX9_setHeight_X9_isCell : GoodIn wsX9_setHeight wsX9_isCell := goodIn_r _ [6, 7, 8, 9, 10, 5, 11, 12, 13, 14, 15, 16, 17, 18, 19, 20, 21, 22, 23, 24, 25, 26, 27, 28, 29, 30, 31] (by decide +kernel) (by decide +kernel)
set_option maxRecDepth 20000 in
theorem gX9_setHeight_X9_isCell : GoodIn wsX9_setHeight (wsV RX9 61 RX9 yX9_isCell wsX9_isCell) := goodIn_app (goodIn_of _ (by decide +kernel)) ggX9_setHeight_X9_isCell
set_option maxRecDepth 20000 in
theorem ggX9_setHeight_X9_isBetween : GoodIn wsX9_setHeight wsX9_isBetween := goodIn_r _ [11] (by decide +kernel) (by decide +kernel)
set_option maxRecDepth 20000 in
theorem gX9_setHeight_X9_isBetween : GoodIn wsX9_setHeight (va_wsS RX9 54 yX9_isBetween wsX9_isBetween) := goodIn_app (goodIn_of _ (by decide +kernel)) ggX9_setHeight_X9_isBetween
theorem dX9_setHeight_0 : decode cX9_setHeight 0 = .ok (.aload_n 0, 1) := by decide +kernel
theorem dX9_setHeight_1 : decode cX9_setHeight 1 = .ok (.iload_n 1, 1) := by decide +kernel
theorem dX9_setHeight_2 : decode cX9_setHeight 2 = .ok (.iload_n 2, 1) := by decide +kernel
theorem dX9_setHeight_3 : decode cX9_setHeight 3 = .ok (.invokevirtual 61, 3) := by decide +kernel
theorem dX9_setHeight_6 : decode cX9_setHeight 6 = .ok (.ifCond .ne 5, 3) := by decide +kernel
theorem dX9_setHeight_9 : decode cX9_setHeight 9 = .ok (.iconst (-1), 1) := by decide +kernel
theorem dX9_setHeight_10 : decode cX9_setHeight 10 = .ok (.ireturn, 1) := by decide +kernel
theorem dX9_setHeight_11 : decode cX9_setHeight 11 = .ok (.iload_n 3, 1) := by decide +kernel
theorem dX9_setHeight_12 : decode cX9_setHeight 12 = .ok (.iconst 0, 1) := by decide +kernel
theorem dX9_setHeight_13 : decode cX9_setHeight 13 = .ok (.sipush 999, 3) := by decide +kernel
theorem dX9_setHeight_16 : decode cX9_setHeight 16 = .ok (.invokestatic 54, 3) := by decide +kernel
theorem dX9_setHeight_19 : decode cX9_setHeight 19 = .ok (.ifCond .ne 6, 3) := by decide +kernel
theorem dX9_setHeight_22 : decode cX9_setHeight 22 = .ok (.bipush (-4), 2) := by decide +kernel
theorem dX9_setHeight_24 : decode cX9_setHeight 24 = .ok (.ireturn, 1) := by decide +kernel
theorem dX9_setHeight_25 : decode cX9_setHeight 25 = .ok (.aload_n 0, 1) := by decide +kernel
theorem dX9_setHeight_26 : decode cX9_setHeight 26 = .ok (.getfield 25, 3) := by decide +kernel
theorem dX9_setHeight_29 : decode cX9_setHeight 29 = .ok (.bipush 16, 2) := by decide +kernel
theorem dX9_setHeight_31 : decode cX9_setHeight 31 = .ok (.iload_n 1, 1) := by decide +kernel
theorem dX9_setHeight_32 : decode cX9_setHeight 32 = .ok (.imul, 1) := by decide +kernel
theorem dX9_setHeight_33 : decode cX9_setHeight 33 = .ok (.iload_n 2, 1) := by decide +kernel
theorem dX9_setHeight_34 : decode cX9_setHeight 34 = .ok (.iadd, 1) := by decide +kernel
theorem dX9_setHeight_35 : decode cX9_setHeight 35 = .ok (.iaload, 1) := by decide +kernel
theorem dX9_setHeight_36 : decode cX9_setHeight 36 = .ok (.istore 4, 2) := by decide +kernel
theorem dX9_setHeight_38 : decode cX9_setHeight 38 = .ok (.aload_n 0, 1) := by decide +kernel
theorem dX9_setHeight_39 : decode cX9_setHeight 39 = .ok (.getfield 25, 3) := by decide +kernel
theorem dX9_setHeight_42 : decode cX9_setHeight 42 = .ok (.bipush 16, 2) := by decide +kernel
theorem dX9_setHeight_44 : decode cX9_setHeight 44 = .ok (.iload_n 1, 1) := by decide +kernel
theorem dX9_setHeight_45 : decode cX9_setHeight 45 = .ok (.imul, 1) := by decide +kernel
theorem dX9_setHeight_46 : decode cX9_setHeight 46 = .ok (.iload_n 2, 1) := by decide +kernel
theorem dX9_setHeight_47 : decode cX9_setHeight 47 = .ok (.iadd, 1) := by decide +kernel
theorem dX9_setHeight_48 : decode cX9_setHeight 48 = .ok (.iload_n 3, 1) := by decide +kernel
theorem dX9_setHeight_49 : decode cX9_setHeight 49 = .ok (.iastore, 1) := by decide +kernel
theorem dX9_setHeight_50 : decode cX9_setHeight 50 = .ok (.iload 4, 2) := by decide +kernel
theorem dX9_setHeight_52 : decode cX9_setHeight 52 = .ok (.ireturn, 1) := by decide +kernel
set_option maxRecDepth 20000 in
theorem ggX9_raiseHill_X9_isCell : GoodIn wsX9_raiseHill wsX9_isCell := goodIn_r _ [8, 1, 2, 9, 10, 7, 11, 15, 16, 17, 18, 19, 20, 21, 22, 23, 24, 25, 26, 27, 28, 29, 30, 31, 32, 33, 34] (by decide +kernel) (by decide +kernel)
set_option maxRecDepth 20000 in
theorem gX9_raiseHill_X9_isCell : GoodIn wsX9_raiseHill (wsV RX9 61 RX9 yX9_isCell wsX9_isCell) := goodIn_app (goodIn_of _ (by decide +kernel)) ggX9_raiseHill_X9_isCell
set_option maxRecDepth 20000 in
theorem ggX9_raiseHill_X9_isBetween : GoodIn wsX9_raiseHill wsX9_isBetween := goodIn_r _ [11] (by decide +kernel) (by decide +kernel)
set_option maxRecDepth 20000 in
theorem gX9_raiseHill_X9_isBetween : GoodIn wsX9_raiseHill (va_wsS RX9 54 yX9_isBetween wsX9_isBetween) := goodIn_app (goodIn_of _ (by decide +kernel)) ggX9_raiseHill_X9_isBetween
set_option maxRecDepth 20000 in
theorem ggX9_raiseHill_X9_size : GoodIn wsX9_raiseHill wsX9_size := goodIn_r _ [14] (by decide +kernel) (by decide +kernel)
set_option maxRecDepth 20000 in
theorem gX9_raiseHill_X9_size : GoodIn wsX9_raiseHill (va_wsS RX9 65 yX9_size wsX9_size) := goodIn_app (goodIn_of _ (by decide +kernel)) ggX9_raiseHill_X9_size
theorem dX9_raiseHill_0 : decode cX9_raiseHill 0 = .ok (.aload_n 0, 1) := by decide +kernel
theorem dX9_raiseHill_1 : decode cX9_raiseHill 1 = .ok (.iload_n 1, 1) := by decide +kernel
theorem dX9_raiseHill_2 : decode cX9_raiseHill 2 = .ok (.iload_n 2, 1) := by decide +kernel
theorem dX9_raiseHill_3 : decode cX9_raiseHill 3 = .ok (.invokevirtual 61, 3) := by decide +kernel
theorem dX9_raiseHill_6 : decode cX9_raiseHill 6 = .ok (.ifCond .ne 5, 3) := by decide +kernel
theorem dX9_raiseHill_9 : decode cX9_raiseHill 9 = .ok (.iconst (-1), 1) := by decide +kernel
theorem dX9_raiseHill_10 : decode cX9_raiseHill 10 = .ok (.ireturn, 1) := by decide +kernel
theorem dX9_raiseHill_11 : decode cX9_raiseHill 11 = .ok (.iload_n 3, 1) := by decide +kernel
theorem dX9_raiseHill_12 : decode cX9_raiseHill 12 = .ok (.iconst 0, 1) := by decide +kernel
theorem dX9_raiseHill_13 : decode cX9_raiseHill 13 = .ok (.iconst 5, 1) := by decide +kernel
theorem dX9_raiseHill_14 : decode cX9_raiseHill 14 = .ok (.invokestatic 54, 3) := by decide +kernel
theorem dX9_raiseHill_17 : decode cX9_raiseHill 17 = .ok (.ifCond .eq 15, 3) := by decide +kernel
theorem dX9_raiseHill_20 : decode cX9_raiseHill 20 = .ok (.iload 4, 2) := by decide +kernel
theorem dX9_raiseHill_22 : decode cX9_raiseHill 22 = .ok (.iconst 1, 1) := by decide +kernel
theorem dX9_raiseHill_23 : decode cX9_raiseHill 23 = .ok (.sipush 999, 3) := by decide +kernel
theorem dX9_raiseHill_26 : decode cX9_raiseHill 26 = .ok (.invokestatic 54, 3) := by decide +kernel
theorem dX9_raiseHill_29 : decode cX9_raiseHill 29 = .ok (.ifCond .ne 6, 3) := by decide +kernel
theorem dX9_raiseHill_32 : decode cX9_raiseHill 32 = .ok (.bipush (-4), 2) := by decide +kernel
theorem dX9_raiseHill_34 : decode cX9_raiseHill 34 = .ok (.ireturn, 1) := by decide +kernel
theorem dX9_raiseHill_35 : decode cX9_raiseHill 35 = .ok (.iconst 0, 1) := by decide +kernel
theorem dX9_raiseHill_36 : decode cX9_raiseHill 36 = .ok (.istore 5, 2) := by decide +kernel
theorem dX9_raiseHill_38 : decode cX9_raiseHill 38 = .ok (.iconst 0, 1) := by decide +kernel
theorem dX9_raiseHill_39 : decode cX9_raiseHill 39 = .ok (.istore 6, 2) := by decide +kernel
theorem dX9_raiseHill_41 : decode cX9_raiseHill 41 = .ok (.iload 6, 2) := by decide +kernel
theorem dX9_raiseHill_43 : decode cX9_raiseHill 43 = .ok (.aload_n 0, 1) := by decide +kernel
theorem dX9_raiseHill_44 : decode cX9_raiseHill 44 = .ok (.getfield 48, 3) := by decide +kernel
theorem dX9_raiseHill_47 : decode cX9_raiseHill 47 = .ok (.if_icmp .ge 159, 3) := by decide +kernel
theorem dX9_raiseHill_50 : decode cX9_raiseHill 50 = .ok (.iconst 0, 1) := by decide +kernel
theorem dX9_raiseHill_51 : decode cX9_raiseHill 51 = .ok (.istore 7, 2) := by decide +kernel
theorem dX9_raiseHill_53 : decode cX9_raiseHill 53 = .ok (.iload 7, 2) := by decide +kernel
theorem dX9_raiseHill_55 : decode cX9_raiseHill 55 = .ok (.aload_n 0, 1) := by decide +kernel
theorem dX9_raiseHill_56 : decode cX9_raiseHill 56 = .ok (.getfield 51, 3) := by decide +kernel
theorem dX9_raiseHill_59 : decode cX9_raiseHill 59 = .ok (.if_icmp .ge 141, 3) := by decide +kernel
theorem dX9_raiseHill_62 : decode cX9_raiseHill 62 = .ok (.iload 6, 2) := by decide +kernel
theorem dX9_raiseHill_64 : decode cX9_raiseHill 64 = .ok (.iload_n 1, 1) := by decide +kernel
theorem dX9_raiseHill_65 : decode cX9_raiseHill 65 = .ok (.isub, 1) := by decide +kernel
theorem dX9_raiseHill_66 : decode cX9_raiseHill 66 = .ok (.invokestatic 65, 3) := by decide +kernel
theorem dX9_raiseHill_69 : decode cX9_raiseHill 69 = .ok (.iload 7, 2) := by decide +kernel
theorem dX9_raiseHill_71 : decode cX9_raiseHill 71 = .ok (.iload_n 2, 1) := by decide +kernel
theorem dX9_raiseHill_72 : decode cX9_raiseHill 72 = .ok (.isub, 1) := by decide +kernel
theorem dX9_raiseHill_73 : decode cX9_raiseHill 73 = .ok (.invokestatic 65, 3) := by decide +kernel
theorem dX9_raiseHill_76 : decode cX9_raiseHill 76 = .ok (.if_icmp .le 13, 3) := by decide +kernel
theorem dX9_raiseHill_79 : decode cX9_raiseHill 79 = .ok (.iload 6, 2) := by decide +kernel
theorem dX9_raiseHill_81 : decode cX9_raiseHill 81 = .ok (.iload_n 1, 1) := by decide +kernel
theorem dX9_raiseHill_82 : decode cX9_raiseHill 82 = .ok (.isub, 1) := by decide +kernel
theorem dX9_raiseHill_83 : decode cX9_raiseHill 83 = .ok (.invokestatic 65, 3) := by decide +kernel
theorem dX9_raiseHill_86 : decode cX9_raiseHill 86 = .ok (.goto 10, 3) := by decide +kernel
theorem dX9_raiseHill_89 : decode cX9_raiseHill 89 = .ok (.iload 7, 2) := by decide +kernel
theorem dX9_raiseHill_91 : decode cX9_raiseHill 91 = .ok (.iload_n 2, 1) := by decide +kernel
theorem dX9_raiseHill_92 : decode cX9_raiseHill 92 = .ok (.isub, 1) := by decide +kernel
theorem dX9_raiseHill_93 : decode cX9_raiseHill 93 = .ok (.invokestatic 65, 3) := by decide +kernel
theorem dX9_raiseHill_96 : decode cX9_raiseHill 96 = .ok (.istore 8, 2) := by decide +kernel
theorem dX9_raiseHill_98 : decode cX9_raiseHill 98 = .ok (.iload 8, 2) := by decide +kernel
theorem dX9_raiseHill_100 : decode cX9_raiseHill 100 = .ok (.iload_n 3, 1) := by decide +kernel
theorem dX9_raiseHill_101 : decode cX9_raiseHill 101 = .ok (.if_icmp .gt 93, 3) := by decide +kernel
theorem dX9_raiseHill_104 : decode cX9_raiseHill 104 = .ok (.aload_n 0, 1) := by decide +kernel
theorem dX9_raiseHill_105 : decode cX9_raiseHill 105 = .ok (.getfield 25, 3) := by decide +kernel
theorem dX9_raiseHill_108 : decode cX9_raiseHill 108 = .ok (.bipush 16, 2) := by decide +kernel
theorem dX9_raiseHill_110 : decode cX9_raiseHill 110 = .ok (.iload 6, 2) := by decide +kernel
theorem dX9_raiseHill_112 : decode cX9_raiseHill 112 = .ok (.imul, 1) := by decide +kernel
theorem dX9_raiseHill_113 : decode cX9_raiseHill 113 = .ok (.iload 7, 2) := by decide +kernel
theorem dX9_raiseHill_115 : decode cX9_raiseHill 115 = .ok (.iadd, 1) := by decide +kernel
theorem dX9_raiseHill_116 : decode cX9_raiseHill 116 = .ok (.iaload, 1) := by decide +kernel
theorem dX9_raiseHill_117 : decode cX9_raiseHill 117 = .ok (.iload 4, 2) := by decide +kernel
theorem dX9_raiseHill_119 : decode cX9_raiseHill 119 = .ok (.iload_n 3, 1) := by decide +kernel
theorem dX9_raiseHill_120 : decode cX9_raiseHill 120 = .ok (.iconst 1, 1) := by decide +kernel
theorem dX9_raiseHill_121 : decode cX9_raiseHill 121 = .ok (.iadd, 1) := by decide +kernel
theorem dX9_raiseHill_122 : decode cX9_raiseHill 122 = .ok (.iload 8, 2) := by decide +kernel
theorem dX9_raiseHill_124 : decode cX9_raiseHill 124 = .ok (.isub, 1) := by decide +kernel
theorem dX9_raiseHill_125 : decode cX9_raiseHill 125 = .ok (.imul, 1) := by decide +kernel
theorem dX9_raiseHill_126 : decode cX9_raiseHill 126 = .ok (.iload_n 3, 1) := by decide +kernel
theorem dX9_raiseHill_127 : decode cX9_raiseHill 127 = .ok (.iconst 1, 1) := by decide +kernel
theorem dX9_raiseHill_128 : decode cX9_raiseHill 128 = .ok (.iadd, 1) := by decide +kernel
theorem dX9_raiseHill_129 : decode cX9_raiseHill 129 = .ok (.idiv, 1) := by decide +kernel
theorem dX9_raiseHill_130 : decode cX9_raiseHill 130 = .ok (.iadd, 1) := by decide +kernel
theorem dX9_raiseHill_131 : decode cX9_raiseHill 131 = .ok (.istore 9, 2) := by decide +kernel
theorem dX9_raiseHill_133 : decode cX9_raiseHill 133 = .ok (.iload 9, 2) := by decide +kernel
theorem dX9_raiseHill_135 : decode cX9_raiseHill 135 = .ok (.sipush 999, 3) := by decide +kernel
theorem dX9_raiseHill_138 : decode cX9_raiseHill 138 = .ok (.if_icmp .le 9, 3) := by decide +kernel
theorem dX9_raiseHill_141 : decode cX9_raiseHill 141 = .ok (.sipush 999, 3) := by decide +kernel
theorem dX9_raiseHill_144 : decode cX9_raiseHill 144 = .ok (.goto 5, 3) := by decide +kernel
theorem dX9_raiseHill_147 : decode cX9_raiseHill 147 = .ok (.iload 9, 2) := by decide +kernel
theorem dX9_raiseHill_149 : decode cX9_raiseHill 149 = .ok (.istore 9, 2) := by decide +kernel
theorem dX9_raiseHill_151 : decode cX9_raiseHill 151 = .ok (.iload 5, 2) := by decide +kernel
theorem dX9_raiseHill_153 : decode cX9_raiseHill 153 = .ok (.iload 9, 2) := by decide +kernel
theorem dX9_raiseHill_155 : decode cX9_raiseHill 155 = .ok (.aload_n 0, 1) := by decide +kernel
theorem dX9_raiseHill_156 : decode cX9_raiseHill 156 = .ok (.getfield 25, 3) := by decide +kernel
theorem dX9_raiseHill_159 : decode cX9_raiseHill 159 = .ok (.bipush 16, 2) := by decide +kernel
theorem dX9_raiseHill_161 : decode cX9_raiseHill 161 = .ok (.iload 6, 2) := by decide +kernel
theorem dX9_raiseHill_163 : decode cX9_raiseHill 163 = .ok (.imul, 1) := by decide +kernel
theorem dX9_raiseHill_164 : decode cX9_raiseHill 164 = .ok (.iload 7, 2) := by decide +kernel
theorem dX9_raiseHill_166 : decode cX9_raiseHill 166 = .ok (.iadd, 1) := by decide +kernel
theorem dX9_raiseHill_167 : decode cX9_raiseHill 167 = .ok (.iaload, 1) := by decide +kernel
theorem dX9_raiseHill_168 : decode cX9_raiseHill 168 = .ok (.if_icmp .ne 7, 3) := by decide +kernel
theorem dX9_raiseHill_171 : decode cX9_raiseHill 171 = .ok (.iconst 0, 1) := by decide +kernel
theorem dX9_raiseHill_172 : decode cX9_raiseHill 172 = .ok (.goto 4, 3) := by decide +kernel
theorem dX9_raiseHill_175 : decode cX9_raiseHill 175 = .ok (.iconst 1, 1) := by decide +kernel
theorem dX9_raiseHill_176 : decode cX9_raiseHill 176 = .ok (.iadd, 1) := by decide +kernel
theorem dX9_raiseHill_177 : decode cX9_raiseHill 177 = .ok (.istore 5, 2) := by decide +kernel
theorem dX9_raiseHill_179 : decode cX9_raiseHill 179 = .ok (.aload_n 0, 1) := by decide +kernel
theorem dX9_raiseHill_180 : decode cX9_raiseHill 180 = .ok (.getfield 25, 3) := by decide +kernel
theorem dX9_raiseHill_183 : decode cX9_raiseHill 183 = .ok (.bipush 16, 2) := by decide +kernel
theorem dX9_raiseHill_185 : decode cX9_raiseHill 185 = .ok (.iload 6, 2) := by decide +kernel
theorem dX9_raiseHill_187 : decode cX9_raiseHill 187 = .ok (.imul, 1) := by decide +kernel
theorem dX9_raiseHill_188 : decode cX9_raiseHill 188 = .ok (.iload 7, 2) := by decide +kernel
theorem dX9_raiseHill_190 : decode cX9_raiseHill 190 = .ok (.iadd, 1) := by decide +kernel
theorem dX9_raiseHill_191 : decode cX9_raiseHill 191 = .ok (.iload 9, 2) := by decide +kernel
theorem dX9_raiseHill_193 : decode cX9_raiseHill 193 = .ok (.iastore, 1) := by decide +kernel
theorem dX9_raiseHill_194 : decode cX9_raiseHill 194 = .ok (.iinc 7 1, 3) := by decide +kernel
theorem dX9_raiseHill_197 : decode cX9_raiseHill 197 = .ok (.goto (-144), 3) := by decide +kernel
theorem dX9_raiseHill_200 : decode cX9_raiseHill 200 = .ok (.iinc 6 1, 3) := by decide +kernel
theorem dX9_raiseHill_203 : decode cX9_raiseHill 203 = .ok (.goto (-162), 3) := by decide +kernel
theorem dX9_raiseHill_206 : decode cX9_raiseHill 206 = .ok (.iload 5, 2) := by decide +kernel
theorem dX9_raiseHill_208 : decode cX9_raiseHill 208 = .ok (.ireturn, 1) := by decide +kernel
set_option maxRecDepth 20000 in
theorem ggX9_height_X9_isCell : GoodIn wsX9_height wsX9_isCell := goodIn_r _ [6, 7, 8, 9, 10, 5, 11, 12, 13, 14, 15, 16, 17, 18, 19, 20, 21, 22, 23, 24, 25, 26, 27, 28, 29, 30, 31] (by decide +kernel) (by decide +kernel)
set_option maxRecDepth 20000 in
theorem gX9_height_X9_isCell : GoodIn wsX9_height (wsV RX9 61 RX9 yX9_isCell wsX9_isCell) := goodIn_app (goodIn_of _ (by decide +kernel)) ggX9_height_X9_isCell
theorem dX9_height_0 : decode cX9_height 0 = .ok (.aload_n 0, 1) := by decide +kernel
theorem dX9_height_1 : decode cX9_height 1 = .ok (.iload_n 1, 1) := by decide +kernel
theorem dX9_height_2 : decode cX9_height 2 = .ok (.iload_n 2, 1) := by decide +kernel
theorem dX9_height_3 : decode cX9_height 3 = .ok (.invokevirtual 61, 3) := by decide +kernel
theorem dX9_height_6 : decode cX9_height 6 = .ok (.ifCond .eq 17, 3) := by decide +kernel
theorem dX9_height_9 : decode cX9_height 9 = .ok (.aload_n 0, 1) := by decide +kernel
theorem dX9_height_10 : decode cX9_height 10 = .ok (.getfield 25, 3) := by decide +kernel
theorem dX9_height_13 : decode cX9_height 13 = .ok (.bipush 16, 2) := by decide +kernel
theorem dX9_height_15 : decode cX9_height 15 = .ok (.iload_n 1, 1) := by decide +kernel
theorem dX9_height_16 : decode cX9_height 16 = .ok (.imul, 1) := by decide +kernel
theorem dX9_height_17 : decode cX9_height 17 = .ok (.iload_n 2, 1) := by decide +kernel
theorem dX9_height_18 : decode cX9_height 18 = .ok (.iadd, 1) := by decide +kernel
theorem dX9_height_19 : decode cX9_height 19 = .ok (.iaload, 1) := by decide +kernel
theorem dX9_height_20 : decode cX9_height 20 = .ok (.goto 4, 3) := by decide +kernel
theorem dX9_height_23 : decode cX9_height 23 = .ok (.iconst (-1), 1) := by decide +kernel
theorem dX9_height_24 : decode cX9_height 24 = .ok (.ireturn, 1) := by decide +kernel
set_option maxRecDepth 20000 in
theorem ggX9_setAltitude_X9_isBetween : GoodIn wsX9_setAltitude wsX9_isBetween := goodIn_r _ [5] (by decide +kernel) (by decide +kernel)
set_option maxRecDepth 20000 in
theorem gX9_setAltitude_X9_isBetween : GoodIn wsX9_setAltitude (va_wsS RX9 54 yX9_isBetween wsX9_isBetween) := goodIn_app (goodIn_of _ (by decide +kernel)) ggX9_setAltitude_X9_isBetween
theorem dX9_setAltitude_0 : decode cX9_setAltitude 0 = .ok (.iload_n 1, 1) := by decide +kernel
theorem dX9_setAltitude_1 : decode cX9_setAltitude 1 = .ok (.bipush 100, 2) := by decide +kernel
theorem dX9_setAltitude_3 : decode cX9_setAltitude 3 = .ok (.sipush 5000, 3) := by decide +kernel
theorem dX9_setAltitude_6 : decode cX9_setAltitude 6 = .ok (.invokestatic 54, 3) := by decide +kernel
theorem dX9_setAltitude_9 : decode cX9_setAltitude 9 = .ok (.ifCond .ne 6, 3) := by decide +kernel
theorem dX9_setAltitude_12 : decode cX9_setAltitude 12 = .ok (.bipush (-4), 2) := by decide +kernel
theorem dX9_setAltitude_14 : decode cX9_setAltitude 14 = .ok (.ireturn, 1) := by decide +kernel
theorem dX9_setAltitude_15 : decode cX9_setAltitude 15 = .ok (.aload_n 0, 1) := by decide +kernel
theorem dX9_setAltitude_16 : decode cX9_setAltitude 16 = .ok (.getfield 7, 3) := by decide +kernel
theorem dX9_setAltitude_19 : decode cX9_setAltitude 19 = .ok (.istore_n 2, 1) := by decide +kernel
theorem dX9_setAltitude_20 : decode cX9_setAltitude 20 = .ok (.aload_n 0, 1) := by decide +kernel
theorem dX9_setAltitude_21 : decode cX9_setAltitude 21 = .ok (.iload_n 1, 1) := by decide +kernel
theorem dX9_setAltitude_22 : decode cX9_setAltitude 22 = .ok (.putfield 7, 3) := by decide +kernel
theorem dX9_setAltitude_25 : decode cX9_setAltitude 25 = .ok (.iload_n 2, 1) := by decide +kernel
theorem dX9_setAltitude_26 : decode cX9_setAltitude 26 = .ok (.ireturn, 1) := by decide +kernel
set_option maxRecDepth 20000 in
theorem ggX9_setFields_X9_isBetween : GoodIn wsX9_setFields wsX9_isBetween := goodIn_r _ [6] (by decide +kernel) (by decide +kernel)
set_option maxRecDepth 20000 in
theorem gX9_setFields_X9_isBetween : GoodIn wsX9_setFields (va_wsS RX9 54 yX9_isBetween wsX9_isBetween) := goodIn_app (goodIn_of _ (by decide +kernel)) ggX9_setFields_X9_isBetween
theorem dX9_setFields_0 : decode cX9_setFields 0 = .ok (.iload_n 1, 1) := by decide +kernel
theorem dX9_setFields_1 : decode cX9_setFields 1 = .ok (.iconst 1, 1) := by decide +kernel
theorem dX9_setFields_2 : decode cX9_setFields 2 = .ok (.bipush 50, 2) := by decide +kernel
theorem dX9_setFields_4 : decode cX9_setFields 4 = .ok (.invokestatic 54, 3) := by decide +kernel
theorem dX9_setFields_7 : decode cX9_setFields 7 = .ok (.ifCond .eq 13, 3) := by decide +kernel
theorem dX9_setFields_10 : decode cX9_setFields 10 = .ok (.iload_n 2, 1) := by decide +kernel
theorem dX9_setFields_11 : decode cX9_setFields 11 = .ok (.iconst 1, 1) := by decide +kernel
theorem dX9_setFields_12 : decode cX9_setFields 12 = .ok (.bipush 50, 2) := by decide +kernel
theorem dX9_setFields_14 : decode cX9_setFields 14 = .ok (.invokestatic 54, 3) := by decide +kernel
theorem dX9_setFields_17 : decode cX9_setFields 17 = .ok (.ifCond .ne 6, 3) := by decide +kernel
theorem dX9_setFields_20 : decode cX9_setFields 20 = .ok (.bipush (-4), 2) := by decide +kernel
theorem dX9_setFields_22 : decode cX9_setFields 22 = .ok (.ireturn, 1) := by decide +kernel
theorem dX9_setFields_23 : decode cX9_setFields 23 = .ok (.aload_n 0, 1) := by decide +kernel
theorem dX9_setFields_24 : decode cX9_setFields 24 = .ok (.getfield 13, 3) := by decide +kernel
theorem dX9_setFields_27 : decode cX9_setFields 27 = .ok (.iload_n 1, 1) := by decide +kernel
theorem dX9_setFields_28 : decode cX9_setFields 28 = .ok (.if_icmp .ne 15, 3) := by decide +kernel
theorem dX9_setFields_31 : decode cX9_setFields 31 = .ok (.aload_n 0, 1) := by decide +kernel
theorem dX9_setFields_32 : decode cX9_setFields 32 = .ok (.getfield 16, 3) := by decide +kernel
theorem dX9_setFields_35 : decode cX9_setFields 35 = .ok (.iload_n 2, 1) := by decide +kernel
theorem dX9_setFields_36 : decode cX9_setFields 36 = .ok (.if_icmp .ne 7, 3) := by decide +kernel
theorem dX9_setFields_39 : decode cX9_setFields 39 = .ok (.iconst 1, 1) := by decide +kernel
theorem dX9_setFields_40 : decode cX9_setFields 40 = .ok (.goto 4, 3) := by decide +kernel
theorem dX9_setFields_43 : decode cX9_setFields 43 = .ok (.iconst 0, 1) := by decide +kernel
theorem dX9_setFields_44 : decode cX9_setFields 44 = .ok (.istore_n 3, 1) := by decide +kernel
theorem dX9_setFields_45 : decode cX9_setFields 45 = .ok (.aload_n 0, 1) := by decide +kernel
theorem dX9_setFields_46 : decode cX9_setFields 46 = .ok (.iload_n 1, 1) := by decide +kernel
theorem dX9_setFields_47 : decode cX9_setFields 47 = .ok (.putfield 13, 3) := by decide +kernel
theorem dX9_setFields_50 : decode cX9_setFields 50 = .ok (.aload_n 0, 1) := by decide +kernel
theorem dX9_setFields_51 : decode cX9_setFields 51 = .ok (.iload_n 2, 1) := by decide +kernel
theorem dX9_setFields_52 : decode cX9_setFields 52 = .ok (.putfield 16, 3) := by decide +kernel
theorem dX9_setFields_55 : decode cX9_setFields 55 = .ok (.iload_n 3, 1) := by decide +kernel
theorem dX9_setFields_56 : decode cX9_setFields 56 = .ok (.ifCond .eq 7, 3) := by decide +kernel
theorem dX9_setFields_59 : decode cX9_setFields 59 = .ok (.iconst 0, 1) := by decide +kernel
theorem dX9_setFields_60 : decode cX9_setFields 60 = .ok (.goto 4, 3) := by decide +kernel
theorem dX9_setFields_63 : decode cX9_setFields 63 = .ok (.iconst 1, 1) := by decide +kernel
theorem dX9_setFields_64 : decode cX9_setFields 64 = .ok (.ireturn, 1) := by decide +kernel
set_option maxRecDepth 20000 in
theorem ggX9_setCrab_X9_isBetween : GoodIn wsX9_setCrab wsX9_isBetween := goodIn_r _ [5] (by decide +kernel) (by decide +kernel)
set_option maxRecDepth 20000 in
theorem gX9_setCrab_X9_isBetween : GoodIn wsX9_setCrab (va_wsS RX9 54 yX9_isBetween wsX9_isBetween) := goodIn_app (goodIn_of _ (by decide +kernel)) ggX9_setCrab_X9_isBetween
theorem dX9_setCrab_0 : decode cX9_setCrab 0 = .ok (.iload_n 1, 1) := by decide +kernel
theorem dX9_setCrab_1 : decode cX9_setCrab 1 = .ok (.bipush (-100), 2) := by decide +kernel
theorem dX9_setCrab_3 : decode cX9_setCrab 3 = .ok (.bipush 100, 2) := by decide +kernel
theorem dX9_setCrab_5 : decode cX9_setCrab 5 = .ok (.invokestatic 54, 3) := by decide +kernel
theorem dX9_setCrab_8 : decode cX9_setCrab 8 = .ok (.ifCond .ne 6, 3) := by decide +kernel
theorem dX9_setCrab_11 : decode cX9_setCrab 11 = .ok (.bipush (-4), 2) := by decide +kernel
theorem dX9_setCrab_13 : decode cX9_setCrab 13 = .ok (.ireturn, 1) := by decide +kernel
theorem dX9_setCrab_14 : decode cX9_setCrab 14 = .ok (.aload_n 0, 1) := by decide +kernel
theorem dX9_setCrab_15 : decode cX9_setCrab 15 = .ok (.getfield 69, 3) := by decide +kernel
theorem dX9_setCrab_18 : decode cX9_setCrab 18 = .ok (.iload_n 1, 1) := by decide +kernel
theorem dX9_setCrab_19 : decode cX9_setCrab 19 = .ok (.if_icmp .ne 7, 3) := by decide +kernel
theorem dX9_setCrab_22 : decode cX9_setCrab 22 = .ok (.iconst 1, 1) := by decide +kernel
theorem dX9_setCrab_23 : decode cX9_setCrab 23 = .ok (.goto 4, 3) := by decide +kernel
theorem dX9_setCrab_26 : decode cX9_setCrab 26 = .ok (.iconst 0, 1) := by decide +kernel
theorem dX9_setCrab_27 : decode cX9_setCrab 27 = .ok (.istore_n 2, 1) := by decide +kernel
theorem dX9_setCrab_28 : decode cX9_setCrab 28 = .ok (.aload_n 0, 1) := by decide +kernel
theorem dX9_setCrab_29 : decode cX9_setCrab 29 = .ok (.iload_n 1, 1) := by decide +kernel
theorem dX9_setCrab_30 : decode cX9_setCrab 30 = .ok (.putfield 69, 3) := by decide +kernel
theorem dX9_setCrab_33 : decode cX9_setCrab 33 = .ok (.iload_n 2, 1) := by decide +kernel
theorem dX9_setCrab_34 : decode cX9_setCrab 34 = .ok (.ifCond .eq 7, 3) := by decide +kernel
theorem dX9_setCrab_37 : decode cX9_setCrab 37 = .ok (.iconst 0, 1) := by decide +kernel
theorem dX9_setCrab_38 : decode cX9_setCrab 38 = .ok (.goto 4, 3) := by decide +kernel
theorem dX9_setCrab_41 : decode cX9_setCrab 41 = .ok (.iconst 1, 1) := by decide +kernel
theorem dX9_setCrab_42 : decode cX9_setCrab 42 = .ok (.ireturn, 1) := by decide +kernel
set_option maxRecDepth 20000 in
theorem ggX9_setSpeed_X9_isBetween : GoodIn wsX9_setSpeed wsX9_isBetween := goodIn_r _ [7] (by decide +kernel) (by decide +kernel)
set_option maxRecDepth 20000 in
theorem gX9_setSpeed_X9_isBetween : GoodIn wsX9_setSpeed (va_wsS RX9 54 yX9_isBetween wsX9_isBetween) := goodIn_app (goodIn_of _ (by decide +kernel)) ggX9_setSpeed_X9_isBetween
theorem dX9_setSpeed_0 : decode cX9_setSpeed 0 = .ok (.iload_n 1, 1) := by decide +kernel
theorem dX9_setSpeed_1 : decode cX9_setSpeed 1 = .ok (.bipush 50, 2) := by decide +kernel
theorem dX9_setSpeed_3 : decode cX9_setSpeed 3 = .ok (.sipush 300, 3) := by decide +kernel
theorem dX9_setSpeed_6 : decode cX9_setSpeed 6 = .ok (.invokestatic 54, 3) := by decide +kernel
theorem dX9_setSpeed_9 : decode cX9_setSpeed 9 = .ok (.ifCond .eq 25, 3) := by decide +kernel
theorem dX9_setSpeed_12 : decode cX9_setSpeed 12 = .ok (.iload_n 2, 1) := by decide +kernel
theorem dX9_setSpeed_13 : decode cX9_setSpeed 13 = .ok (.bipush (-40), 2) := by decide +kernel
theorem dX9_setSpeed_15 : decode cX9_setSpeed 15 = .ok (.bipush 40, 2) := by decide +kernel
theorem dX9_setSpeed_17 : decode cX9_setSpeed 17 = .ok (.invokestatic 54, 3) := by decide +kernel
theorem dX9_setSpeed_20 : decode cX9_setSpeed 20 = .ok (.ifCond .eq 14, 3) := by decide +kernel
theorem dX9_setSpeed_23 : decode cX9_setSpeed 23 = .ok (.iload_n 3, 1) := by decide +kernel
theorem dX9_setSpeed_24 : decode cX9_setSpeed 24 = .ok (.iconst 0, 1) := by decide +kernel
theorem dX9_setSpeed_25 : decode cX9_setSpeed 25 = .ok (.sipush 500, 3) := by decide +kernel
theorem dX9_setSpeed_28 : decode cX9_setSpeed 28 = .ok (.invokestatic 54, 3) := by decide +kernel
theorem dX9_setSpeed_31 : decode cX9_setSpeed 31 = .ok (.ifCond .ne 6, 3) := by decide +kernel
theorem dX9_setSpeed_34 : decode cX9_setSpeed 34 = .ok (.bipush (-4), 2) := by decide +kernel
theorem dX9_setSpeed_36 : decode cX9_setSpeed 36 = .ok (.ireturn, 1) := by decide +kernel
theorem dX9_setSpeed_37 : decode cX9_setSpeed 37 = .ok (.aload_n 0, 1) := by decide +kernel
theorem dX9_setSpeed_38 : decode cX9_setSpeed 38 = .ok (.getfield 19, 3) := by decide +kernel
theorem dX9_setSpeed_41 : decode cX9_setSpeed 41 = .ok (.iload_n 1, 1) := by decide +kernel
theorem dX9_setSpeed_42 : decode cX9_setSpeed 42 = .ok (.if_icmp .ne 23, 3) := by decide +kernel
theorem dX9_setSpeed_45 : decode cX9_setSpeed 45 = .ok (.aload_n 0, 1) := by decide +kernel
theorem dX9_setSpeed_46 : decode cX9_setSpeed 46 = .ok (.getfield 72, 3) := by decide +kernel
theorem dX9_setSpeed_49 : decode cX9_setSpeed 49 = .ok (.iload_n 2, 1) := by decide +kernel
theorem dX9_setSpeed_50 : decode cX9_setSpeed 50 = .ok (.if_icmp .ne 15, 3) := by decide +kernel
theorem dX9_setSpeed_53 : decode cX9_setSpeed 53 = .ok (.aload_n 0, 1) := by decide +kernel
theorem dX9_setSpeed_54 : decode cX9_setSpeed 54 = .ok (.getfield 22, 3) := by decide +kernel
theorem dX9_setSpeed_57 : decode cX9_setSpeed 57 = .ok (.iload_n 3, 1) := by decide +kernel
theorem dX9_setSpeed_58 : decode cX9_setSpeed 58 = .ok (.if_icmp .ne 7, 3) := by decide +kernel
theorem dX9_setSpeed_61 : decode cX9_setSpeed 61 = .ok (.iconst 1, 1) := by decide +kernel
theorem dX9_setSpeed_62 : decode cX9_setSpeed 62 = .ok (.goto 4, 3) := by decide +kernel
theorem dX9_setSpeed_65 : decode cX9_setSpeed 65 = .ok (.iconst 0, 1) := by decide +kernel
theorem dX9_setSpeed_66 : decode cX9_setSpeed 66 = .ok (.istore 4, 2) := by decide +kernel
theorem dX9_setSpeed_68 : decode cX9_setSpeed 68 = .ok (.aload_n 0, 1) := by decide +kernel
theorem dX9_setSpeed_69 : decode cX9_setSpeed 69 = .ok (.iload_n 1, 1) := by decide +kernel
theorem dX9_setSpeed_70 : decode cX9_setSpeed 70 = .ok (.putfield 19, 3) := by decide +kernel
theorem dX9_setSpeed_73 : decode cX9_setSpeed 73 = .ok (.aload_n 0, 1) := by decide +kernel
theorem dX9_setSpeed_74 : decode cX9_setSpeed 74 = .ok (.iload_n 2, 1) := by decide +kernel
theorem dX9_setSpeed_75 : decode cX9_setSpeed 75 = .ok (.putfield 72, 3) := by decide +kernel
theorem dX9_setSpeed_78 : decode cX9_setSpeed 78 = .ok (.aload_n 0, 1) := by decide +kernel
theorem dX9_setSpeed_79 : decode cX9_setSpeed 79 = .ok (.iload_n 3, 1) := by decide +kernel
theorem dX9_setSpeed_80 : decode cX9_setSpeed 80 = .ok (.putfield 22, 3) := by decide +kernel
theorem dX9_setSpeed_83 : decode cX9_setSpeed 83 = .ok (.iload 4, 2) := by decide +kernel
theorem dX9_setSpeed_85 : decode cX9_setSpeed 85 = .ok (.ifCond .eq 7, 3) := by decide +kernel
theorem dX9_setSpeed_88 : decode cX9_setSpeed 88 = .ok (.iconst 0, 1) := by decide +kernel
theorem dX9_setSpeed_89 : decode cX9_setSpeed 89 = .ok (.goto 4, 3) := by decide +kernel
theorem dX9_setSpeed_92 : decode cX9_setSpeed 92 = .ok (.iconst 1, 1) := by decide +kernel
theorem dX9_setSpeed_93 : decode cX9_setSpeed 93 = .ok (.ireturn, 1) := by decide +kernel
set_option maxRecDepth 20000 in
theorem ggX9_isStrip_X9_isBetween : GoodIn wsX9_isStrip wsX9_isBetween := goodIn_r _ [5] (by decide +kernel) (by decide +kernel)
set_option maxRecDepth 20000 in
theorem gX9_isStrip_X9_isBetween : GoodIn wsX9_isStrip (va_wsS RX9 54 yX9_isBetween wsX9_isBetween) := goodIn_app (goodIn_of _ (by decide +kernel)) ggX9_isStrip_X9_isBetween
theorem dX9_isStrip_0 : decode cX9_isStrip 0 = .ok (.iload_n 1, 1) := by decide +kernel
theorem dX9_isStrip_1 : decode cX9_isStrip 1 = .ok (.iconst 0, 1) := by decide +kernel
theorem dX9_isStrip_2 : decode cX9_isStrip 2 = .ok (.aload_n 0, 1) := by decide +kernel
theorem dX9_isStrip_3 : decode cX9_isStrip 3 = .ok (.getfield 58, 3) := by decide +kernel
theorem dX9_isStrip_6 : decode cX9_isStrip 6 = .ok (.iconst 1, 1) := by decide +kernel
theorem dX9_isStrip_7 : decode cX9_isStrip 7 = .ok (.isub, 1) := by decide +kernel
theorem dX9_isStrip_8 : decode cX9_isStrip 8 = .ok (.invokestatic 54, 3) := by decide +kernel
theorem dX9_isStrip_11 : decode cX9_isStrip 11 = .ok (.ireturn, 1) := by decide +kernel
theorem dX9_put_0 : decode cX9_put 0 = .ok (.aload_n 0, 1) := by decide +kernel
theorem dX9_put_1 : decode cX9_put 1 = .ok (.getfield 29, 3) := by decide +kernel
theorem dX9_put_4 : decode cX9_put 4 = .ok (.aload_n 0, 1) := by decide +kernel
theorem dX9_put_5 : decode cX9_put 5 = .ok (.getfield 58, 3) := by decide +kernel
theorem dX9_put_8 : decode cX9_put 8 = .ok (.iload_n 1, 1) := by decide +kernel
theorem dX9_put_9 : decode cX9_put 9 = .ok (.iastore, 1) := by decide +kernel
theorem dX9_put_10 : decode cX9_put 10 = .ok (.aload_n 0, 1) := by decide +kernel
theorem dX9_put_11 : decode cX9_put 11 = .ok (.getfield 32, 3) := by decide +kernel
theorem dX9_put_14 : decode cX9_put 14 = .ok (.aload_n 0, 1) := by decide +kernel
theorem dX9_put_15 : decode cX9_put 15 = .ok (.getfield 58, 3) := by decide +kernel
theorem dX9_put_18 : decode cX9_put 18 = .ok (.iload_n 2, 1) := by decide +kernel
theorem dX9_put_19 : decode cX9_put 19 = .ok (.iastore, 1) := by decide +kernel
theorem dX9_put_20 : decode cX9_put 20 = .ok (.aload_n 0, 1) := by decide +kernel
theorem dX9_put_21 : decode cX9_put 21 = .ok (.getfield 35, 3) := by decide +kernel
theorem dX9_put_24 : decode cX9_put 24 = .ok (.aload_n 0, 1) := by decide +kernel
theorem dX9_put_25 : decode cX9_put 25 = .ok (.getfield 58, 3) := by decide +kernel
theorem dX9_put_28 : decode cX9_put 28 = .ok (.iload_n 3, 1) := by decide +kernel
theorem dX9_put_29 : decode cX9_put 29 = .ok (.iastore, 1) := by decide +kernel
theorem dX9_put_30 : decode cX9_put 30 = .ok (.aload_n 0, 1) := by decide +kernel
theorem dX9_put_31 : decode cX9_put 31 = .ok (.getfield 38, 3) := by decide +kernel
theorem dX9_put_34 : decode cX9_put 34 = .ok (.aload_n 0, 1) := by decide +kernel
theorem dX9_put_35 : decode cX9_put 35 = .ok (.getfield 58, 3) := by decide +kernel
theorem dX9_put_38 : decode cX9_put 38 = .ok (.iload 4, 2) := by decide +kernel
theorem dX9_put_40 : decode cX9_put 40 = .ok (.iastore, 1) := by decide +kernel
theorem dX9_put_41 : decode cX9_put 41 = .ok (.aload_n 0, 1) := by decide +kernel
theorem dX9_put_42 : decode cX9_put 42 = .ok (.dup, 1) := by decide +kernel
theorem dX9_put_43 : decode cX9_put 43 = .ok (.getfield 58, 3) := by decide +kernel
theorem dX9_put_46 : decode cX9_put 46 = .ok (.iconst 1, 1) := by decide +kernel
theorem dX9_put_47 : decode cX9_put 47 = .ok (.iadd, 1) := by decide +kernel
theorem dX9_put_48 : decode cX9_put 48 = .ok (.putfield 58, 3) := by decide +kernel
theorem dX9_put_51 : decode cX9_put 51 = .ok (.return_, 1) := by decide +kernel
set_option maxRecDepth 20000 in
theorem ggX9_addStrip_X9_isCell : GoodIn wsX9_addStrip wsX9_isCell := goodIn_r _ [6, 7, 8, 9, 10, 5, 11, 20, 21, 22, 23, 24, 25, 26, 27, 28, 29, 30, 31, 32, 33, 34, 35, 36, 37, 38, 39] (by decide +kernel) (by decide +kernel)
set_option maxRecDepth 20000 in
theorem gX9_addStrip_X9_isCell : GoodIn wsX9_addStrip (wsV RX9 61 RX9 yX9_isCell wsX9_isCell) := goodIn_app (goodIn_of _ (by decide +kernel)) ggX9_addStrip_X9_isCell
set_option maxRecDepth 20000 in
theorem ggX9_addStrip_X9_isBetween : GoodIn wsX9_addStrip wsX9_isBetween := goodIn_r _ [11] (by decide +kernel) (by decide +kernel)
set_option maxRecDepth 20000 in
theorem gX9_addStrip_X9_isBetween : GoodIn wsX9_addStrip (va_wsS RX9 54 yX9_isBetween wsX9_isBetween) := goodIn_app (goodIn_of _ (by decide +kernel)) ggX9_addStrip_X9_isBetween
set_option maxRecDepth 20000 in
theorem ggX9_addStrip_X9_put : GoodIn wsX9_addStrip wsX9_put := goodIn_r _ [15, 16, 1, 17, 18, 19, 20, 21, 22, 23, 24, 25, 26, 27, 28, 29, 30, 31, 32, 33, 34, 35, 36, 37, 38, 39] (by decide +kernel) (by decide +kernel)
set_option maxRecDepth 20000 in
theorem gX9_addStrip_X9_put : GoodIn wsX9_addStrip (wsV RX9 75 RX9 yX9_put wsX9_put) := goodIn_app (goodIn_of _ (by decide +kernel)) ggX9_addStrip_X9_put
theorem dX9_addStrip_0 : decode cX9_addStrip 0 = .ok (.aload_n 0, 1) := by decide +kernel
theorem dX9_addStrip_1 : decode cX9_addStrip 1 = .ok (.iload_n 1, 1) := by decide +kernel
theorem dX9_addStrip_2 : decode cX9_addStrip 2 = .ok (.iload_n 2, 1) := by decide +kernel
theorem dX9_addStrip_3 : decode cX9_addStrip 3 = .ok (.invokevirtual 61, 3) := by decide +kernel
theorem dX9_addStrip_6 : decode cX9_addStrip 6 = .ok (.ifCond .eq 12, 3) := by decide +kernel
theorem dX9_addStrip_9 : decode cX9_addStrip 9 = .ok (.aload_n 0, 1) := by decide +kernel
theorem dX9_addStrip_10 : decode cX9_addStrip 10 = .ok (.iload_n 1, 1) := by decide +kernel
theorem dX9_addStrip_11 : decode cX9_addStrip 11 = .ok (.iload_n 3, 1) := by decide +kernel
theorem dX9_addStrip_12 : decode cX9_addStrip 12 = .ok (.invokevirtual 61, 3) := by decide +kernel
theorem dX9_addStrip_15 : decode cX9_addStrip 15 = .ok (.ifCond .ne 5, 3) := by decide +kernel
theorem dX9_addStrip_18 : decode cX9_addStrip 18 = .ok (.iconst (-1), 1) := by decide +kernel
theorem dX9_addStrip_19 : decode cX9_addStrip 19 = .ok (.ireturn, 1) := by decide +kernel
theorem dX9_addStrip_20 : decode cX9_addStrip 20 = .ok (.iload_n 3, 1) := by decide +kernel
theorem dX9_addStrip_21 : decode cX9_addStrip 21 = .ok (.iload_n 2, 1) := by decide +kernel
theorem dX9_addStrip_22 : decode cX9_addStrip 22 = .ok (.if_icmp .lt 14, 3) := by decide +kernel
theorem dX9_addStrip_25 : decode cX9_addStrip 25 = .ok (.iload 4, 2) := by decide +kernel
theorem dX9_addStrip_27 : decode cX9_addStrip 27 = .ok (.iconst 1, 1) := by decide +kernel
theorem dX9_addStrip_28 : decode cX9_addStrip 28 = .ok (.bipush 16, 2) := by decide +kernel
theorem dX9_addStrip_30 : decode cX9_addStrip 30 = .ok (.invokestatic 54, 3) := by decide +kernel
theorem dX9_addStrip_33 : decode cX9_addStrip 33 = .ok (.ifCond .ne 6, 3) := by decide +kernel
theorem dX9_addStrip_36 : decode cX9_addStrip 36 = .ok (.bipush (-4), 2) := by decide +kernel
theorem dX9_addStrip_38 : decode cX9_addStrip 38 = .ok (.ireturn, 1) := by decide +kernel
theorem dX9_addStrip_39 : decode cX9_addStrip 39 = .ok (.aload_n 0, 1) := by decide +kernel
theorem dX9_addStrip_40 : decode cX9_addStrip 40 = .ok (.getfield 58, 3) := by decide +kernel
theorem dX9_addStrip_43 : decode cX9_addStrip 43 = .ok (.bipush 8, 2) := by decide +kernel
theorem dX9_addStrip_45 : decode cX9_addStrip 45 = .ok (.if_icmp .ne 6, 3) := by decide +kernel
theorem dX9_addStrip_48 : decode cX9_addStrip 48 = .ok (.bipush (-5), 2) := by decide +kernel
theorem dX9_addStrip_50 : decode cX9_addStrip 50 = .ok (.ireturn, 1) := by decide +kernel
theorem dX9_addStrip_51 : decode cX9_addStrip 51 = .ok (.aload_n 0, 1) := by decide +kernel
theorem dX9_addStrip_52 : decode cX9_addStrip 52 = .ok (.iload_n 1, 1) := by decide +kernel
theorem dX9_addStrip_53 : decode cX9_addStrip 53 = .ok (.iload_n 2, 1) := by decide +kernel
theorem dX9_addStrip_54 : decode cX9_addStrip 54 = .ok (.iload_n 3, 1) := by decide +kernel
theorem dX9_addStrip_55 : decode cX9_addStrip 55 = .ok (.iload 4, 2) := by decide +kernel
theorem dX9_addStrip_57 : decode cX9_addStrip 57 = .ok (.invokevirtual 75, 3) := by decide +kernel
theorem dX9_addStrip_60 : decode cX9_addStrip 60 = .ok (.aload_n 0, 1) := by decide +kernel
theorem dX9_addStrip_61 : decode cX9_addStrip 61 = .ok (.getfield 58, 3) := by decide +kernel
theorem dX9_addStrip_64 : decode cX9_addStrip 64 = .ok (.iconst 1, 1) := by decide +kernel
theorem dX9_addStrip_65 : decode cX9_addStrip 65 = .ok (.isub, 1) := by decide +kernel
theorem dX9_addStrip_66 : decode cX9_addStrip 66 = .ok (.ireturn, 1) := by decide +kernel
set_option maxRecDepth 20000 in
theorem ggX9_removeStrip_X9_isStrip : GoodIn wsX9_removeStrip wsX9_isStrip := goodIn_r _ [10, 1, 11, 12, 9, 13, 14, 15, 16, 17, 18, 19, 20, 21, 22, 23, 24, 25, 26, 27, 28, 29, 30, 31, 32, 33] (by decide +kernel) (by decide +kernel)
set_option maxRecDepth 20000 in
theorem gX9_removeStrip_X9_isStrip : GoodIn wsX9_removeStrip (wsV RX9 79 RX9 yX9_isStrip wsX9_isStrip) := goodIn_app (goodIn_of _ (by decide +kernel)) ggX9_removeStrip_X9_isStrip
theorem dX9_removeStrip_0 : decode cX9_removeStrip 0 = .ok (.aload_n 0, 1) := by decide +kernel
theorem dX9_removeStrip_1 : decode cX9_removeStrip 1 = .ok (.iload_n 1, 1) := by decide +kernel
theorem dX9_removeStrip_2 : decode cX9_removeStrip 2 = .ok (.invokevirtual 79, 3) := by decide +kernel
theorem dX9_removeStrip_5 : decode cX9_removeStrip 5 = .ok (.ifCond .ne 6, 3) := by decide +kernel
theorem dX9_removeStrip_8 : decode cX9_removeStrip 8 = .ok (.bipush (-2), 2) := by decide +kernel
theorem dX9_removeStrip_10 : decode cX9_removeStrip 10 = .ok (.ireturn, 1) := by decide +kernel
theorem dX9_removeStrip_11 : decode cX9_removeStrip 11 = .ok (.aload_n 0, 1) := by decide +kernel
theorem dX9_removeStrip_12 : decode cX9_removeStrip 12 = .ok (.dup, 1) := by decide +kernel
theorem dX9_removeStrip_13 : decode cX9_removeStrip 13 = .ok (.getfield 58, 3) := by decide +kernel
theorem dX9_removeStrip_16 : decode cX9_removeStrip 16 = .ok (.iconst 1, 1) := by decide +kernel
theorem dX9_removeStrip_17 : decode cX9_removeStrip 17 = .ok (.isub, 1) := by decide +kernel
theorem dX9_removeStrip_18 : decode cX9_removeStrip 18 = .ok (.putfield 58, 3) := by decide +kernel
theorem dX9_removeStrip_21 : decode cX9_removeStrip 21 = .ok (.iload_n 1, 1) := by decide +kernel
theorem dX9_removeStrip_22 : decode cX9_removeStrip 22 = .ok (.istore_n 2, 1) := by decide +kernel
theorem dX9_removeStrip_23 : decode cX9_removeStrip 23 = .ok (.iload_n 2, 1) := by decide +kernel
theorem dX9_removeStrip_24 : decode cX9_removeStrip 24 = .ok (.aload_n 0, 1) := by decide +kernel
theorem dX9_removeStrip_25 : decode cX9_removeStrip 25 = .ok (.getfield 58, 3) := by decide +kernel
theorem dX9_removeStrip_28 : decode cX9_removeStrip 28 = .ok (.if_icmp .ge 65, 3) := by decide +kernel
theorem dX9_removeStrip_31 : decode cX9_removeStrip 31 = .ok (.aload_n 0, 1) := by decide +kernel
theorem dX9_removeStrip_32 : decode cX9_removeStrip 32 = .ok (.getfield 29, 3) := by decide +kernel
theorem dX9_removeStrip_35 : decode cX9_removeStrip 35 = .ok (.iload_n 2, 1) := by decide +kernel
theorem dX9_removeStrip_36 : decode cX9_removeStrip 36 = .ok (.aload_n 0, 1) := by decide +kernel
theorem dX9_removeStrip_37 : decode cX9_removeStrip 37 = .ok (.getfield 29, 3) := by decide +kernel
theorem dX9_removeStrip_40 : decode cX9_removeStrip 40 = .ok (.iload_n 2, 1) := by decide +kernel
theorem dX9_removeStrip_41 : decode cX9_removeStrip 41 = .ok (.iconst 1, 1) := by decide +kernel
theorem dX9_removeStrip_42 : decode cX9_removeStrip 42 = .ok (.iadd, 1) := by decide +kernel
theorem dX9_removeStrip_43 : decode cX9_removeStrip 43 = .ok (.iaload, 1) := by decide +kernel
theorem dX9_removeStrip_44 : decode cX9_removeStrip 44 = .ok (.iastore, 1) := by decide +kernel
theorem dX9_removeStrip_45 : decode cX9_removeStrip 45 = .ok (.aload_n 0, 1) := by decide +kernel
theorem dX9_removeStrip_46 : decode cX9_removeStrip 46 = .ok (.getfield 32, 3) := by decide +kernel
theorem dX9_removeStrip_49 : decode cX9_removeStrip 49 = .ok (.iload_n 2, 1) := by decide +kernel
theorem dX9_removeStrip_50 : decode cX9_removeStrip 50 = .ok (.aload_n 0, 1) := by decide +kernel
theorem dX9_removeStrip_51 : decode cX9_removeStrip 51 = .ok (.getfield 32, 3) := by decide +kernel
theorem dX9_removeStrip_54 : decode cX9_removeStrip 54 = .ok (.iload_n 2, 1) := by decide +kernel
theorem dX9_removeStrip_55 : decode cX9_removeStrip 55 = .ok (.iconst 1, 1) := by decide +kernel
theorem dX9_removeStrip_56 : decode cX9_removeStrip 56 = .ok (.iadd, 1) := by decide +kernel
theorem dX9_removeStrip_57 : decode cX9_removeStrip 57 = .ok (.iaload, 1) := by decide +kernel
theorem dX9_removeStrip_58 : decode cX9_removeStrip 58 = .ok (.iastore, 1) := by decide +kernel
theorem dX9_removeStrip_59 : decode cX9_removeStrip 59 = .ok (.aload_n 0, 1) := by decide +kernel
theorem dX9_removeStrip_60 : decode cX9_removeStrip 60 = .ok (.getfield 35, 3) := by decide +kernel
theorem dX9_removeStrip_63 : decode cX9_removeStrip 63 = .ok (.iload_n 2, 1) := by decide +kernel
theorem dX9_removeStrip_64 : decode cX9_removeStrip 64 = .ok (.aload_n 0, 1) := by decide +kernel
theorem dX9_removeStrip_65 : decode cX9_removeStrip 65 = .ok (.getfield 35, 3) := by decide +kernel
theorem dX9_removeStrip_68 : decode cX9_removeStrip 68 = .ok (.iload_n 2, 1) := by decide +kernel
theorem dX9_removeStrip_69 : decode cX9_removeStrip 69 = .ok (.iconst 1, 1) := by decide +kernel
theorem dX9_removeStrip_70 : decode cX9_removeStrip 70 = .ok (.iadd, 1) := by decide +kernel
theorem dX9_removeStrip_71 : decode cX9_removeStrip 71 = .ok (.iaload, 1) := by decide +kernel
theorem dX9_removeStrip_72 : decode cX9_removeStrip 72 = .ok (.iastore, 1) := by decide +kernel
theorem dX9_removeStrip_73 : decode cX9_removeStrip 73 = .ok (.aload_n 0, 1) := by decide +kernel
theorem dX9_removeStrip_74 : decode cX9_removeStrip 74 = .ok (.getfield 38, 3) := by decide +kernel
theorem dX9_removeStrip_77 : decode cX9_removeStrip 77 = .ok (.iload_n 2, 1) := by decide +kernel
theorem dX9_removeStrip_78 : decode cX9_removeStrip 78 = .ok (.aload_n 0, 1) := by decide +kernel
theorem dX9_removeStrip_79 : decode cX9_removeStrip 79 = .ok (.getfield 38, 3) := by decide +kernel
theorem dX9_removeStrip_82 : decode cX9_removeStrip 82 = .ok (.iload_n 2, 1) := by decide +kernel
theorem dX9_removeStrip_83 : decode cX9_removeStrip 83 = .ok (.iconst 1, 1) := by decide +kernel
theorem dX9_removeStrip_84 : decode cX9_removeStrip 84 = .ok (.iadd, 1) := by decide +kernel
theorem dX9_removeStrip_85 : decode cX9_removeStrip 85 = .ok (.iaload, 1) := by decide +kernel
theorem dX9_removeStrip_86 : decode cX9_removeStrip 86 = .ok (.iastore, 1) := by decide +kernel
theorem dX9_removeStrip_87 : decode cX9_removeStrip 87 = .ok (.iinc 2 1, 3) := by decide +kernel
theorem dX9_removeStrip_90 : decode cX9_removeStrip 90 = .ok (.goto (-67), 3) := by decide +kernel
theorem dX9_removeStrip_93 : decode cX9_removeStrip 93 = .ok (.aload_n 0, 1) := by decide +kernel
theorem dX9_removeStrip_94 : decode cX9_removeStrip 94 = .ok (.getfield 58, 3) := by decide +kernel
theorem dX9_removeStrip_97 : decode cX9_removeStrip 97 = .ok (.ireturn, 1) := by decide +kernel
theorem dX9_stripCount_0 : decode cX9_stripCount 0 = .ok (.aload_n 0, 1) := by decide +kernel
theorem dX9_stripCount_1 : decode cX9_stripCount 1 = .ok (.getfield 58, 3) := by decide +kernel
theorem dX9_stripCount_4 : decode cX9_stripCount 4 = .ok (.ireturn, 1) := by decide +kernel
theorem dX9_photosOf_0 : decode cX9_photosOf 0 = .ok (.aload_n 0, 1) := by decide +kernel
theorem dX9_photosOf_1 : decode cX9_photosOf 1 = .ok (.getfield 35, 3) := by decide +kernel
theorem dX9_photosOf_4 : decode cX9_photosOf 4 = .ok (.iload_n 1, 1) := by decide +kernel
theorem dX9_photosOf_5 : decode cX9_photosOf 5 = .ok (.iaload, 1) := by decide +kernel
theorem dX9_photosOf_6 : decode cX9_photosOf 6 = .ok (.aload_n 0, 1) := by decide +kernel
theorem dX9_photosOf_7 : decode cX9_photosOf 7 = .ok (.getfield 32, 3) := by decide +kernel
theorem dX9_photosOf_10 : decode cX9_photosOf 10 = .ok (.iload_n 1, 1) := by decide +kernel
theorem dX9_photosOf_11 : decode cX9_photosOf 11 = .ok (.iaload, 1) := by decide +kernel
theorem dX9_photosOf_12 : decode cX9_photosOf 12 = .ok (.isub, 1) := by decide +kernel
theorem dX9_photosOf_13 : decode cX9_photosOf 13 = .ok (.aload_n 0, 1) := by decide +kernel
theorem dX9_photosOf_14 : decode cX9_photosOf 14 = .ok (.getfield 38, 3) := by decide +kernel
theorem dX9_photosOf_17 : decode cX9_photosOf 17 = .ok (.iload_n 1, 1) := by decide +kernel
theorem dX9_photosOf_18 : decode cX9_photosOf 18 = .ok (.iaload, 1) := by decide +kernel
theorem dX9_photosOf_19 : decode cX9_photosOf 19 = .ok (.idiv, 1) := by decide +kernel
theorem dX9_photosOf_20 : decode cX9_photosOf 20 = .ok (.iconst 1, 1) := by decide +kernel
theorem dX9_photosOf_21 : decode cX9_photosOf 21 = .ok (.iadd, 1) := by decide +kernel
theorem dX9_photosOf_22 : decode cX9_photosOf 22 = .ok (.ireturn, 1) := by decide +kernel
theorem dX9_columnOf_0 : decode cX9_columnOf 0 = .ok (.aload_n 0, 1) := by decide +kernel
theorem dX9_columnOf_1 : decode cX9_columnOf 1 = .ok (.getfield 32, 3) := by decide +kernel
theorem dX9_columnOf_4 : decode cX9_columnOf 4 = .ok (.iload_n 1, 1) := by decide +kernel
theorem dX9_columnOf_5 : decode cX9_columnOf 5 = .ok (.iaload, 1) := by decide +kernel
theorem dX9_columnOf_6 : decode cX9_columnOf 6 = .ok (.iload_n 2, 1) := by decide +kernel
theorem dX9_columnOf_7 : decode cX9_columnOf 7 = .ok (.aload_n 0, 1) := by decide +kernel
theorem dX9_columnOf_8 : decode cX9_columnOf 8 = .ok (.getfield 38, 3) := by decide +kernel
theorem dX9_columnOf_11 : decode cX9_columnOf 11 = .ok (.iload_n 1, 1) := by decide +kernel
theorem dX9_columnOf_12 : decode cX9_columnOf 12 = .ok (.iaload, 1) := by decide +kernel
theorem dX9_columnOf_13 : decode cX9_columnOf 13 = .ok (.imul, 1) := by decide +kernel
theorem dX9_columnOf_14 : decode cX9_columnOf 14 = .ok (.iadd, 1) := by decide +kernel
theorem dX9_columnOf_15 : decode cX9_columnOf 15 = .ok (.ireturn, 1) := by decide +kernel
set_option maxRecDepth 20000 in
theorem ggX9_checkPhoto_X9_isStrip : GoodIn wsX9_checkPhoto wsX9_isStrip := goodIn_r _ [5, 6, 7, 8, 4, 9, 17, 18, 19, 20, 21, 22, 23, 24, 25, 26, 27, 28, 29, 30, 31, 32, 33, 34, 35, 36] (by decide +kernel) (by decide +kernel)
set_option maxRecDepth 20000 in
theorem gX9_checkPhoto_X9_isStrip : GoodIn wsX9_checkPhoto (wsV RX9 79 RX9 yX9_isStrip wsX9_isStrip) := goodIn_app (goodIn_of _ (by decide +kernel)) ggX9_checkPhoto_X9_isStrip
set_option maxRecDepth 20000 in
theorem ggX9_checkPhoto_X9_photosOf : GoodIn wsX9_checkPhoto wsX9_photosOf := goodIn_r _ [13, 14, 15, 16, 17, 18, 19, 20, 21, 22, 23, 24, 25, 26, 27, 28, 29, 30, 31, 32, 33, 34, 35, 36] (by decide +kernel) (by decide +kernel)
set_option maxRecDepth 20000 in
theorem gX9_checkPhoto_X9_photosOf : GoodIn wsX9_checkPhoto (wsV RX9 83 RX9 yX9_photosOf wsX9_photosOf) := goodIn_app (goodIn_of _ (by decide +kernel)) ggX9_checkPhoto_X9_photosOf
set_option maxRecDepth 20000 in
theorem ggX9_checkPhoto_X9_isBetween : GoodIn wsX9_checkPhoto wsX9_isBetween := goodIn_r _ [9] (by decide +kernel) (by decide +kernel)
set_option maxRecDepth 20000 in
theorem gX9_checkPhoto_X9_isBetween : GoodIn wsX9_checkPhoto (va_wsS RX9 54 yX9_isBetween wsX9_isBetween) := goodIn_app (goodIn_of _ (by decide +kernel)) ggX9_checkPhoto_X9_isBetween
theorem dX9_checkPhoto_0 : decode cX9_checkPhoto 0 = .ok (.aload_n 0, 1) := by decide +kernel
theorem dX9_checkPhoto_1 : decode cX9_checkPhoto 1 = .ok (.iload_n 1, 1) := by decide +kernel
theorem dX9_checkPhoto_2 : decode cX9_checkPhoto 2 = .ok (.invokevirtual 79, 3) := by decide +kernel
theorem dX9_checkPhoto_5 : decode cX9_checkPhoto 5 = .ok (.ifCond .ne 8, 3) := by decide +kernel
theorem dX9_checkPhoto_8 : decode cX9_checkPhoto 8 = .ok (.bipush (-2), 2) := by decide +kernel
theorem dX9_checkPhoto_10 : decode cX9_checkPhoto 10 = .ok (.goto 24, 3) := by decide +kernel
theorem dX9_checkPhoto_13 : decode cX9_checkPhoto 13 = .ok (.iload_n 2, 1) := by decide +kernel
theorem dX9_checkPhoto_14 : decode cX9_checkPhoto 14 = .ok (.iconst 0, 1) := by decide +kernel
theorem dX9_checkPhoto_15 : decode cX9_checkPhoto 15 = .ok (.aload_n 0, 1) := by decide +kernel
theorem dX9_checkPhoto_16 : decode cX9_checkPhoto 16 = .ok (.iload_n 1, 1) := by decide +kernel
theorem dX9_checkPhoto_17 : decode cX9_checkPhoto 17 = .ok (.invokevirtual 83, 3) := by decide +kernel
theorem dX9_checkPhoto_20 : decode cX9_checkPhoto 20 = .ok (.iconst 1, 1) := by decide +kernel
theorem dX9_checkPhoto_21 : decode cX9_checkPhoto 21 = .ok (.isub, 1) := by decide +kernel
theorem dX9_checkPhoto_22 : decode cX9_checkPhoto 22 = .ok (.invokestatic 54, 3) := by decide +kernel
theorem dX9_checkPhoto_25 : decode cX9_checkPhoto 25 = .ok (.ifCond .eq 7, 3) := by decide +kernel
theorem dX9_checkPhoto_28 : decode cX9_checkPhoto 28 = .ok (.iconst 0, 1) := by decide +kernel
theorem dX9_checkPhoto_29 : decode cX9_checkPhoto 29 = .ok (.goto 5, 3) := by decide +kernel
theorem dX9_checkPhoto_32 : decode cX9_checkPhoto 32 = .ok (.bipush (-3), 2) := by decide +kernel
theorem dX9_checkPhoto_34 : decode cX9_checkPhoto 34 = .ok (.ireturn, 1) := by decide +kernel
set_option maxRecDepth 20000 in
theorem ggX9_photoCount_X9_isStrip : GoodIn wsX9_photoCount wsX9_isStrip := goodIn_r _ [5, 6, 7, 8, 4, 9, 17, 18, 19, 20, 21, 22, 23, 24, 25, 26, 27, 28, 29, 30, 31, 32, 33, 34, 35, 36] (by decide +kernel) (by decide +kernel)
set_option maxRecDepth 20000 in
theorem gX9_photoCount_X9_isStrip : GoodIn wsX9_photoCount (wsV RX9 79 RX9 yX9_isStrip wsX9_isStrip) := goodIn_app (goodIn_of _ (by decide +kernel)) ggX9_photoCount_X9_isStrip
set_option maxRecDepth 20000 in
theorem ggX9_photoCount_X9_photosOf : GoodIn wsX9_photoCount wsX9_photosOf := goodIn_r _ [13, 14, 15, 16, 17, 18, 19, 20, 21, 22, 23, 24, 25, 26, 27, 28, 29, 30, 31, 32, 33, 34, 35, 36] (by decide +kernel) (by decide +kernel)
set_option maxRecDepth 20000 in
theorem gX9_photoCount_X9_photosOf : GoodIn wsX9_photoCount (wsV RX9 83 RX9 yX9_photosOf wsX9_photosOf) := goodIn_app (goodIn_of _ (by decide +kernel)) ggX9_photoCount_X9_photosOf
theorem dX9_photoCount_0 : decode cX9_photoCount 0 = .ok (.aload_n 0, 1) := by decide +kernel
theorem dX9_photoCount_1 : decode cX9_photoCount 1 = .ok (.iload_n 1, 1) := by decide +kernel
theorem dX9_photoCount_2 : decode cX9_photoCount 2 = .ok (.invokevirtual 79, 3) := by decide +kernel
theorem dX9_photoCount_5 : decode cX9_photoCount 5 = .ok (.ifCond .eq 11, 3) := by decide +kernel
theorem dX9_photoCount_8 : decode cX9_photoCount 8 = .ok (.aload_n 0, 1) := by decide +kernel
theorem dX9_photoCount_9 : decode cX9_photoCount 9 = .ok (.iload_n 1, 1) := by decide +kernel
theorem dX9_photoCount_10 : decode cX9_photoCount 10 = .ok (.invokevirtual 83, 3) := by decide +kernel
theorem dX9_photoCount_13 : decode cX9_photoCount 13 = .ok (.goto 5, 3) := by decide +kernel
theorem dX9_photoCount_16 : decode cX9_photoCount 16 = .ok (.bipush (-2), 2) := by decide +kernel
theorem dX9_photoCount_18 : decode cX9_photoCount 18 = .ok (.ireturn, 1) := by decide +kernel
set_option maxRecDepth 20000 in
theorem ggX9_photoColumn_X9_checkPhoto : GoodIn wsX9_photoColumn wsX9_checkPhoto := goodIn_r _ [5, 6, 7, 8, 4, 9, 10, 11, 12, 13, 14, 15, 16, 17, 18, 19, 20, 25, 26, 27, 28, 29, 30, 31, 32, 33, 34, 35, 36, 37, 38, 39, 40, 41, 42, 43, 44] (by decide +kernel) (by decide +kernel)
set_option maxRecDepth 20000 in
theorem gX9_photoColumn_X9_checkPhoto : GoodIn wsX9_photoColumn (wsV RX9 86 RX9 yX9_checkPhoto wsX9_checkPhoto) := goodIn_app (goodIn_of _ (by decide +kernel)) ggX9_photoColumn_X9_checkPhoto
set_option maxRecDepth 20000 in
theorem ggX9_photoColumn_X9_columnOf : GoodIn wsX9_photoColumn wsX9_columnOf := goodIn_r _ [24, 19, 20, 25, 26, 27, 28, 29, 30, 31, 32, 33, 34, 35, 36, 37, 38, 39, 40, 41, 42, 43, 44] (by decide +kernel) (by decide +kernel)
set_option maxRecDepth 20000 in
theorem gX9_photoColumn_X9_columnOf : GoodIn wsX9_photoColumn (wsV RX9 90 RX9 yX9_columnOf wsX9_columnOf) := goodIn_app (goodIn_of _ (by decide +kernel)) ggX9_photoColumn_X9_columnOf
theorem dX9_photoColumn_0 : decode cX9_photoColumn 0 = .ok (.aload_n 0, 1) := by decide +kernel
theorem dX9_photoColumn_1 : decode cX9_photoColumn 1 = .ok (.iload_n 1, 1) := by decide +kernel
theorem dX9_photoColumn_2 : decode cX9_photoColumn 2 = .ok (.iload_n 2, 1) := by decide +kernel
theorem dX9_photoColumn_3 : decode cX9_photoColumn 3 = .ok (.invokevirtual 86, 3) := by decide +kernel
theorem dX9_photoColumn_6 : decode cX9_photoColumn 6 = .ok (.istore_n 3, 1) := by decide +kernel
theorem dX9_photoColumn_7 : decode cX9_photoColumn 7 = .ok (.iload_n 3, 1) := by decide +kernel
theorem dX9_photoColumn_8 : decode cX9_photoColumn 8 = .ok (.ifCond .ge 7, 3) := by decide +kernel
theorem dX9_photoColumn_11 : decode cX9_photoColumn 11 = .ok (.iload_n 3, 1) := by decide +kernel
theorem dX9_photoColumn_12 : decode cX9_photoColumn 12 = .ok (.goto 9, 3) := by decide +kernel
theorem dX9_photoColumn_15 : decode cX9_photoColumn 15 = .ok (.aload_n 0, 1) := by decide +kernel
theorem dX9_photoColumn_16 : decode cX9_photoColumn 16 = .ok (.iload_n 1, 1) := by decide +kernel
theorem dX9_photoColumn_17 : decode cX9_photoColumn 17 = .ok (.iload_n 2, 1) := by decide +kernel
theorem dX9_photoColumn_18 : decode cX9_photoColumn 18 = .ok (.invokevirtual 90, 3) := by decide +kernel
theorem dX9_photoColumn_21 : decode cX9_photoColumn 21 = .ok (.ireturn, 1) := by decide +kernel
theorem dX9_nearest_0 : decode cX9_nearest 0 = .ok (.iconst 2, 1) := by decide +kernel
theorem dX9_nearest_1 : decode cX9_nearest 1 = .ok (.iload_n 0, 1) := by decide +kernel
theorem dX9_nearest_2 : decode cX9_nearest 2 = .ok (.imul, 1) := by decide +kernel
theorem dX9_nearest_3 : decode cX9_nearest 3 = .ok (.iload_n 1, 1) := by decide +kernel
theorem dX9_nearest_4 : decode cX9_nearest 4 = .ok (.iadd, 1) := by decide +kernel
theorem dX9_nearest_5 : decode cX9_nearest 5 = .ok (.istore_n 2, 1) := by decide +kernel
theorem dX9_nearest_6 : decode cX9_nearest 6 = .ok (.iconst 2, 1) := by decide +kernel
theorem dX9_nearest_7 : decode cX9_nearest 7 = .ok (.iload_n 1, 1) := by decide +kernel
theorem dX9_nearest_8 : decode cX9_nearest 8 = .ok (.imul, 1) := by decide +kernel
theorem dX9_nearest_9 : decode cX9_nearest 9 = .ok (.istore_n 3, 1) := by decide +kernel
theorem dX9_nearest_10 : decode cX9_nearest 10 = .ok (.iload_n 2, 1) := by decide +kernel
theorem dX9_nearest_11 : decode cX9_nearest 11 = .ok (.iload_n 3, 1) := by decide +kernel
theorem dX9_nearest_12 : decode cX9_nearest 12 = .ok (.idiv, 1) := by decide +kernel
theorem dX9_nearest_13 : decode cX9_nearest 13 = .ok (.istore 4, 2) := by decide +kernel
theorem dX9_nearest_15 : decode cX9_nearest 15 = .ok (.iload 4, 2) := by decide +kernel
theorem dX9_nearest_17 : decode cX9_nearest 17 = .ok (.iload_n 3, 1) := by decide +kernel
theorem dX9_nearest_18 : decode cX9_nearest 18 = .ok (.imul, 1) := by decide +kernel
theorem dX9_nearest_19 : decode cX9_nearest 19 = .ok (.iload_n 2, 1) := by decide +kernel
theorem dX9_nearest_20 : decode cX9_nearest 20 = .ok (.if_icmp .le 10, 3) := by decide +kernel
theorem dX9_nearest_23 : decode cX9_nearest 23 = .ok (.iload 4, 2) := by decide +kernel
theorem dX9_nearest_25 : decode cX9_nearest 25 = .ok (.iconst 1, 1) := by decide +kernel
theorem dX9_nearest_26 : decode cX9_nearest 26 = .ok (.isub, 1) := by decide +kernel
theorem dX9_nearest_27 : decode cX9_nearest 27 = .ok (.goto 5, 3) := by decide +kernel
theorem dX9_nearest_30 : decode cX9_nearest 30 = .ok (.iload 4, 2) := by decide +kernel
theorem dX9_nearest_32 : decode cX9_nearest 32 = .ok (.ireturn, 1) := by decide +kernel
set_option maxRecDepth 20000 in
theorem ggX9_isBlocked_X9_size : GoodIn wsX9_isBlocked wsX9_size := goodIn_r _ [6] (by decide +kernel) (by decide +kernel)
set_option maxRecDepth 20000 in
theorem gX9_isBlocked_X9_size : GoodIn wsX9_isBlocked (va_wsS RX9 65 yX9_size wsX9_size) := goodIn_app (goodIn_of _ (by decide +kernel)) ggX9_isBlocked_X9_size
set_option maxRecDepth 20000 in
theorem ggX9_isBlocked_X9_nearest : GoodIn wsX9_isBlocked wsX9_nearest := goodIn_r _ [9] (by decide +kernel) (by decide +kernel)
set_option maxRecDepth 20000 in
theorem gX9_isBlocked_X9_nearest : GoodIn wsX9_isBlocked (va_wsS RX9 93 yX9_nearest wsX9_nearest) := goodIn_app (goodIn_of _ (by decide +kernel)) ggX9_isBlocked_X9_nearest
theorem dX9_isBlocked_0 : decode cX9_isBlocked 0 = .ok (.iload_n 3, 1) := by decide +kernel
theorem dX9_isBlocked_1 : decode cX9_isBlocked 1 = .ok (.invokestatic 65, 3) := by decide +kernel
theorem dX9_isBlocked_4 : decode cX9_isBlocked 4 = .ok (.iload 4, 2) := by decide +kernel
theorem dX9_isBlocked_6 : decode cX9_isBlocked 6 = .ok (.invokestatic 65, 3) := by decide +kernel
theorem dX9_isBlocked_9 : decode cX9_isBlocked 9 = .ok (.if_icmp .le 10, 3) := by decide +kernel
theorem dX9_isBlocked_12 : decode cX9_isBlocked 12 = .ok (.iload_n 3, 1) := by decide +kernel
theorem dX9_isBlocked_13 : decode cX9_isBlocked 13 = .ok (.invokestatic 65, 3) := by decide +kernel
theorem dX9_isBlocked_16 : decode cX9_isBlocked 16 = .ok (.goto 8, 3) := by decide +kernel
theorem dX9_isBlocked_19 : decode cX9_isBlocked 19 = .ok (.iload 4, 2) := by decide +kernel
theorem dX9_isBlocked_21 : decode cX9_isBlocked 21 = .ok (.invokestatic 65, 3) := by decide +kernel
theorem dX9_isBlocked_24 : decode cX9_isBlocked 24 = .ok (.istore 6, 2) := by decide +kernel
theorem dX9_isBlocked_26 : decode cX9_isBlocked 26 = .ok (.iconst 1, 1) := by decide +kernel
theorem dX9_isBlocked_27 : decode cX9_isBlocked 27 = .ok (.istore 7, 2) := by decide +kernel
theorem dX9_isBlocked_29 : decode cX9_isBlocked 29 = .ok (.iload 7, 2) := by decide +kernel
theorem dX9_isBlocked_31 : decode cX9_isBlocked 31 = .ok (.iload 6, 2) := by decide +kernel
theorem dX9_isBlocked_33 : decode cX9_isBlocked 33 = .ok (.if_icmp .ge 75, 3) := by decide +kernel
theorem dX9_isBlocked_36 : decode cX9_isBlocked 36 = .ok (.iload_n 1, 1) := by decide +kernel
theorem dX9_isBlocked_37 : decode cX9_isBlocked 37 = .ok (.iload 7, 2) := by decide +kernel
theorem dX9_isBlocked_39 : decode cX9_isBlocked 39 = .ok (.iload_n 3, 1) := by decide +kernel
theorem dX9_isBlocked_40 : decode cX9_isBlocked 40 = .ok (.imul, 1) := by decide +kernel
theorem dX9_isBlocked_41 : decode cX9_isBlocked 41 = .ok (.iload 6, 2) := by decide +kernel
theorem dX9_isBlocked_43 : decode cX9_isBlocked 43 = .ok (.invokestatic 93, 3) := by decide +kernel
theorem dX9_isBlocked_46 : decode cX9_isBlocked 46 = .ok (.iadd, 1) := by decide +kernel
theorem dX9_isBlocked_47 : decode cX9_isBlocked 47 = .ok (.istore 8, 2) := by decide +kernel
theorem dX9_isBlocked_49 : decode cX9_isBlocked 49 = .ok (.iload_n 2, 1) := by decide +kernel
theorem dX9_isBlocked_50 : decode cX9_isBlocked 50 = .ok (.iload 7, 2) := by decide +kernel
theorem dX9_isBlocked_52 : decode cX9_isBlocked 52 = .ok (.iload 4, 2) := by decide +kernel
theorem dX9_isBlocked_54 : decode cX9_isBlocked 54 = .ok (.imul, 1) := by decide +kernel
theorem dX9_isBlocked_55 : decode cX9_isBlocked 55 = .ok (.iload 6, 2) := by decide +kernel
theorem dX9_isBlocked_57 : decode cX9_isBlocked 57 = .ok (.invokestatic 93, 3) := by decide +kernel
theorem dX9_isBlocked_60 : decode cX9_isBlocked 60 = .ok (.iadd, 1) := by decide +kernel
theorem dX9_isBlocked_61 : decode cX9_isBlocked 61 = .ok (.istore 9, 2) := by decide +kernel
theorem dX9_isBlocked_63 : decode cX9_isBlocked 63 = .ok (.aload_n 0, 1) := by decide +kernel
theorem dX9_isBlocked_64 : decode cX9_isBlocked 64 = .ok (.getfield 25, 3) := by decide +kernel
theorem dX9_isBlocked_67 : decode cX9_isBlocked 67 = .ok (.bipush 16, 2) := by decide +kernel
theorem dX9_isBlocked_69 : decode cX9_isBlocked 69 = .ok (.iload 8, 2) := by decide +kernel
theorem dX9_isBlocked_71 : decode cX9_isBlocked 71 = .ok (.imul, 1) := by decide +kernel
theorem dX9_isBlocked_72 : decode cX9_isBlocked 72 = .ok (.iload 9, 2) := by decide +kernel
theorem dX9_isBlocked_74 : decode cX9_isBlocked 74 = .ok (.iadd, 1) := by decide +kernel
theorem dX9_isBlocked_75 : decode cX9_isBlocked 75 = .ok (.iaload, 1) := by decide +kernel
theorem dX9_isBlocked_76 : decode cX9_isBlocked 76 = .ok (.iload 6, 2) := by decide +kernel
theorem dX9_isBlocked_78 : decode cX9_isBlocked 78 = .ok (.imul, 1) := by decide +kernel
theorem dX9_isBlocked_79 : decode cX9_isBlocked 79 = .ok (.aload_n 0, 1) := by decide +kernel
theorem dX9_isBlocked_80 : decode cX9_isBlocked 80 = .ok (.getfield 7, 3) := by decide +kernel
theorem dX9_isBlocked_83 : decode cX9_isBlocked 83 = .ok (.iload 6, 2) := by decide +kernel
theorem dX9_isBlocked_85 : decode cX9_isBlocked 85 = .ok (.imul, 1) := by decide +kernel
theorem dX9_isBlocked_86 : decode cX9_isBlocked 86 = .ok (.iload 5, 2) := by decide +kernel
theorem dX9_isBlocked_88 : decode cX9_isBlocked 88 = .ok (.aload_n 0, 1) := by decide +kernel
theorem dX9_isBlocked_89 : decode cX9_isBlocked 89 = .ok (.getfield 7, 3) := by decide +kernel
theorem dX9_isBlocked_92 : decode cX9_isBlocked 92 = .ok (.isub, 1) := by decide +kernel
theorem dX9_isBlocked_93 : decode cX9_isBlocked 93 = .ok (.iload 7, 2) := by decide +kernel
theorem dX9_isBlocked_95 : decode cX9_isBlocked 95 = .ok (.imul, 1) := by decide +kernel
theorem dX9_isBlocked_96 : decode cX9_isBlocked 96 = .ok (.iadd, 1) := by decide +kernel
theorem dX9_isBlocked_97 : decode cX9_isBlocked 97 = .ok (.if_icmp .le 5, 3) := by decide +kernel
theorem dX9_isBlocked_100 : decode cX9_isBlocked 100 = .ok (.iconst 1, 1) := by decide +kernel
theorem dX9_isBlocked_101 : decode cX9_isBlocked 101 = .ok (.ireturn, 1) := by decide +kernel
theorem dX9_isBlocked_102 : decode cX9_isBlocked 102 = .ok (.iinc 7 1, 3) := by decide +kernel
theorem dX9_isBlocked_105 : decode cX9_isBlocked 105 = .ok (.goto (-76), 3) := by decide +kernel
theorem dX9_isBlocked_108 : decode cX9_isBlocked 108 = .ok (.iconst 0, 1) := by decide +kernel
theorem dX9_isBlocked_109 : decode cX9_isBlocked 109 = .ok (.ireturn, 1) := by decide +kernel
set_option maxRecDepth 20000 in
theorem ggX9_sees_X9_size : GoodIn wsX9_sees wsX9_size := goodIn_r _ [9] (by decide +kernel) (by decide +kernel)
set_option maxRecDepth 20000 in
theorem gX9_sees_X9_size : GoodIn wsX9_sees (va_wsS RX9 65 yX9_size wsX9_size) := goodIn_app (goodIn_of _ (by decide +kernel)) ggX9_sees_X9_size
set_option maxRecDepth 20000 in
theorem ggX9_sees_X9_isBlocked : GoodIn wsX9_sees wsX9_isBlocked := goodIn_r _ [13, 1, 2, 6, 7, 8, 9, 14, 15, 16, 17, 18, 19, 20, 21, 22, 23, 24, 25, 26, 27, 28, 29, 30, 31, 32, 33, 34, 35, 36] (by decide +kernel) (by decide +kernel)
set_option maxRecDepth 20000 in
theorem gX9_sees_X9_isBlocked : GoodIn wsX9_sees (wsV RX9 96 RX9 yX9_isBlocked wsX9_isBlocked) := goodIn_app (goodIn_of _ (by decide +kernel)) ggX9_sees_X9_isBlocked
theorem dX9_sees_0 : decode cX9_sees 0 = .ok (.aload_n 0, 1) := by decide +kernel
theorem dX9_sees_1 : decode cX9_sees 1 = .ok (.getfield 25, 3) := by decide +kernel
theorem dX9_sees_4 : decode cX9_sees 4 = .ok (.bipush 16, 2) := by decide +kernel
theorem dX9_sees_6 : decode cX9_sees 6 = .ok (.iload_n 3, 1) := by decide +kernel
theorem dX9_sees_7 : decode cX9_sees 7 = .ok (.imul, 1) := by decide +kernel
theorem dX9_sees_8 : decode cX9_sees 8 = .ok (.iload 4, 2) := by decide +kernel
theorem dX9_sees_10 : decode cX9_sees 10 = .ok (.iadd, 1) := by decide +kernel
theorem dX9_sees_11 : decode cX9_sees 11 = .ok (.iaload, 1) := by decide +kernel
theorem dX9_sees_12 : decode cX9_sees 12 = .ok (.istore 5, 2) := by decide +kernel
theorem dX9_sees_14 : decode cX9_sees 14 = .ok (.iload_n 3, 1) := by decide +kernel
theorem dX9_sees_15 : decode cX9_sees 15 = .ok (.iload_n 1, 1) := by decide +kernel
theorem dX9_sees_16 : decode cX9_sees 16 = .ok (.isub, 1) := by decide +kernel
theorem dX9_sees_17 : decode cX9_sees 17 = .ok (.istore 6, 2) := by decide +kernel
theorem dX9_sees_19 : decode cX9_sees 19 = .ok (.iload 4, 2) := by decide +kernel
theorem dX9_sees_21 : decode cX9_sees 21 = .ok (.iload_n 2, 1) := by decide +kernel
theorem dX9_sees_22 : decode cX9_sees 22 = .ok (.isub, 1) := by decide +kernel
theorem dX9_sees_23 : decode cX9_sees 23 = .ok (.istore 7, 2) := by decide +kernel
theorem dX9_sees_25 : decode cX9_sees 25 = .ok (.aload_n 0, 1) := by decide +kernel
theorem dX9_sees_26 : decode cX9_sees 26 = .ok (.getfield 7, 3) := by decide +kernel
theorem dX9_sees_29 : decode cX9_sees 29 = .ok (.iload 5, 2) := by decide +kernel
theorem dX9_sees_31 : decode cX9_sees 31 = .ok (.if_icmp .le 71, 3) := by decide +kernel
theorem dX9_sees_34 : decode cX9_sees 34 = .ok (.bipush 100, 2) := by decide +kernel
theorem dX9_sees_36 : decode cX9_sees 36 = .ok (.iload 7, 2) := by decide +kernel
theorem dX9_sees_38 : decode cX9_sees 38 = .ok (.imul, 1) := by decide +kernel
theorem dX9_sees_39 : decode cX9_sees 39 = .ok (.aload_n 0, 1) := by decide +kernel
theorem dX9_sees_40 : decode cX9_sees 40 = .ok (.getfield 69, 3) := by decide +kernel
theorem dX9_sees_43 : decode cX9_sees 43 = .ok (.iload 6, 2) := by decide +kernel
theorem dX9_sees_45 : decode cX9_sees 45 = .ok (.imul, 1) := by decide +kernel
theorem dX9_sees_46 : decode cX9_sees 46 = .ok (.iadd, 1) := by decide +kernel
theorem dX9_sees_47 : decode cX9_sees 47 = .ok (.invokestatic 65, 3) := by decide +kernel
theorem dX9_sees_50 : decode cX9_sees 50 = .ok (.aload_n 0, 1) := by decide +kernel
theorem dX9_sees_51 : decode cX9_sees 51 = .ok (.getfield 7, 3) := by decide +kernel
theorem dX9_sees_54 : decode cX9_sees 54 = .ok (.iload 5, 2) := by decide +kernel
theorem dX9_sees_56 : decode cX9_sees 56 = .ok (.isub, 1) := by decide +kernel
theorem dX9_sees_57 : decode cX9_sees 57 = .ok (.aload_n 0, 1) := by decide +kernel
theorem dX9_sees_58 : decode cX9_sees 58 = .ok (.getfield 13, 3) := by decide +kernel
theorem dX9_sees_61 : decode cX9_sees 61 = .ok (.imul, 1) := by decide +kernel
theorem dX9_sees_62 : decode cX9_sees 62 = .ok (.bipush 10, 2) := by decide +kernel
theorem dX9_sees_64 : decode cX9_sees 64 = .ok (.idiv, 1) := by decide +kernel
theorem dX9_sees_65 : decode cX9_sees 65 = .ok (.if_icmp .gt 37, 3) := by decide +kernel
theorem dX9_sees_68 : decode cX9_sees 68 = .ok (.bipush 100, 2) := by decide +kernel
theorem dX9_sees_70 : decode cX9_sees 70 = .ok (.iload 6, 2) := by decide +kernel
theorem dX9_sees_72 : decode cX9_sees 72 = .ok (.imul, 1) := by decide +kernel
theorem dX9_sees_73 : decode cX9_sees 73 = .ok (.aload_n 0, 1) := by decide +kernel
theorem dX9_sees_74 : decode cX9_sees 74 = .ok (.getfield 69, 3) := by decide +kernel
theorem dX9_sees_77 : decode cX9_sees 77 = .ok (.iload 7, 2) := by decide +kernel
theorem dX9_sees_79 : decode cX9_sees 79 = .ok (.imul, 1) := by decide +kernel
theorem dX9_sees_80 : decode cX9_sees 80 = .ok (.isub, 1) := by decide +kernel
theorem dX9_sees_81 : decode cX9_sees 81 = .ok (.invokestatic 65, 3) := by decide +kernel
theorem dX9_sees_84 : decode cX9_sees 84 = .ok (.aload_n 0, 1) := by decide +kernel
theorem dX9_sees_85 : decode cX9_sees 85 = .ok (.getfield 7, 3) := by decide +kernel
theorem dX9_sees_88 : decode cX9_sees 88 = .ok (.iload 5, 2) := by decide +kernel
theorem dX9_sees_90 : decode cX9_sees 90 = .ok (.isub, 1) := by decide +kernel
theorem dX9_sees_91 : decode cX9_sees 91 = .ok (.aload_n 0, 1) := by decide +kernel
theorem dX9_sees_92 : decode cX9_sees 92 = .ok (.getfield 16, 3) := by decide +kernel
theorem dX9_sees_95 : decode cX9_sees 95 = .ok (.imul, 1) := by decide +kernel
theorem dX9_sees_96 : decode cX9_sees 96 = .ok (.bipush 10, 2) := by decide +kernel
theorem dX9_sees_98 : decode cX9_sees 98 = .ok (.idiv, 1) := by decide +kernel
theorem dX9_sees_99 : decode cX9_sees 99 = .ok (.if_icmp .le 5, 3) := by decide +kernel
theorem dX9_sees_102 : decode cX9_sees 102 = .ok (.iconst 0, 1) := by decide +kernel
theorem dX9_sees_103 : decode cX9_sees 103 = .ok (.ireturn, 1) := by decide +kernel
theorem dX9_sees_104 : decode cX9_sees 104 = .ok (.aload_n 0, 1) := by decide +kernel
theorem dX9_sees_105 : decode cX9_sees 105 = .ok (.iload_n 1, 1) := by decide +kernel
theorem dX9_sees_106 : decode cX9_sees 106 = .ok (.iload_n 2, 1) := by decide +kernel
theorem dX9_sees_107 : decode cX9_sees 107 = .ok (.iload 6, 2) := by decide +kernel
theorem dX9_sees_109 : decode cX9_sees 109 = .ok (.iload 7, 2) := by decide +kernel
theorem dX9_sees_111 : decode cX9_sees 111 = .ok (.iload 5, 2) := by decide +kernel
theorem dX9_sees_113 : decode cX9_sees 113 = .ok (.invokevirtual 96, 3) := by decide +kernel
theorem dX9_sees_116 : decode cX9_sees 116 = .ok (.ifCond .ne 7, 3) := by decide +kernel
theorem dX9_sees_119 : decode cX9_sees 119 = .ok (.iconst 1, 1) := by decide +kernel
theorem dX9_sees_120 : decode cX9_sees 120 = .ok (.goto 4, 3) := by decide +kernel
theorem dX9_sees_123 : decode cX9_sees 123 = .ok (.iconst 0, 1) := by decide +kernel
theorem dX9_sees_124 : decode cX9_sees 124 = .ok (.ireturn, 1) := by decide +kernel
set_option maxRecDepth 20000 in
theorem ggX9_photoSees_X9_columnOf : GoodIn wsX9_photoSees wsX9_columnOf := goodIn_r _ [7, 8, 9, 29, 30, 31, 32, 33, 34, 35, 36, 37, 38, 39, 40, 41, 42, 43, 44, 45, 46, 47, 48] (by decide +kernel) (by decide +kernel)
set_option maxRecDepth 20000 in
theorem gX9_photoSees_X9_columnOf : GoodIn wsX9_photoSees (wsV RX9 90 RX9 yX9_columnOf wsX9_columnOf) := goodIn_app (goodIn_of _ (by decide +kernel)) ggX9_photoSees_X9_columnOf
set_option maxRecDepth 20000 in
theorem ggX9_photoSees_X9_sees : GoodIn wsX9_photoSees wsX9_sees := goodIn_r _ [13, 14, 15, 16, 17, 18, 19, 20, 6, 21, 22, 23, 24, 25, 26, 27, 28, 29, 30, 31, 32, 33, 34, 35, 36, 37, 38, 39, 40, 41, 42, 43, 44, 45, 46, 47, 48] (by decide +kernel) (by decide +kernel)
set_option maxRecDepth 20000 in
theorem gX9_photoSees_X9_sees : GoodIn wsX9_photoSees (wsV RX9 100 RX9 yX9_sees wsX9_sees) := goodIn_app (goodIn_of _ (by decide +kernel)) ggX9_photoSees_X9_sees
theorem dX9_photoSees_0 : decode cX9_photoSees 0 = .ok (.aload_n 0, 1) := by decide +kernel
theorem dX9_photoSees_1 : decode cX9_photoSees 1 = .ok (.aload_n 0, 1) := by decide +kernel
theorem dX9_photoSees_2 : decode cX9_photoSees 2 = .ok (.getfield 29, 3) := by decide +kernel
theorem dX9_photoSees_5 : decode cX9_photoSees 5 = .ok (.iload_n 1, 1) := by decide +kernel
theorem dX9_photoSees_6 : decode cX9_photoSees 6 = .ok (.iaload, 1) := by decide +kernel
theorem dX9_photoSees_7 : decode cX9_photoSees 7 = .ok (.aload_n 0, 1) := by decide +kernel
theorem dX9_photoSees_8 : decode cX9_photoSees 8 = .ok (.iload_n 1, 1) := by decide +kernel
theorem dX9_photoSees_9 : decode cX9_photoSees 9 = .ok (.iload_n 2, 1) := by decide +kernel
theorem dX9_photoSees_10 : decode cX9_photoSees 10 = .ok (.invokevirtual 90, 3) := by decide +kernel
theorem dX9_photoSees_13 : decode cX9_photoSees 13 = .ok (.iload_n 3, 1) := by decide +kernel
theorem dX9_photoSees_14 : decode cX9_photoSees 14 = .ok (.aload_n 0, 1) := by decide +kernel
theorem dX9_photoSees_15 : decode cX9_photoSees 15 = .ok (.getfield 51, 3) := by decide +kernel
theorem dX9_photoSees_18 : decode cX9_photoSees 18 = .ok (.idiv, 1) := by decide +kernel
theorem dX9_photoSees_19 : decode cX9_photoSees 19 = .ok (.iload_n 3, 1) := by decide +kernel
theorem dX9_photoSees_20 : decode cX9_photoSees 20 = .ok (.aload_n 0, 1) := by decide +kernel
theorem dX9_photoSees_21 : decode cX9_photoSees 21 = .ok (.getfield 51, 3) := by decide +kernel
theorem dX9_photoSees_24 : decode cX9_photoSees 24 = .ok (.irem, 1) := by decide +kernel
theorem dX9_photoSees_25 : decode cX9_photoSees 25 = .ok (.invokevirtual 100, 3) := by decide +kernel
theorem dX9_photoSees_28 : decode cX9_photoSees 28 = .ok (.ireturn, 1) := by decide +kernel
set_option maxRecDepth 20000 in
theorem ggX9_seesCell_X9_checkPhoto : GoodIn wsX9_seesCell wsX9_checkPhoto := goodIn_r _ [6, 7, 8, 9, 5, 10, 11, 12, 13, 14, 15, 16, 17, 18, 19, 20, 21, 51, 52, 53, 54, 55, 56, 57, 58, 59, 60, 61, 62, 63, 64, 65, 66, 67, 68, 69, 70] (by decide +kernel) (by decide +kernel)
set_option maxRecDepth 20000 in
theorem gX9_seesCell_X9_checkPhoto : GoodIn wsX9_seesCell (wsV RX9 86 RX9 yX9_checkPhoto wsX9_checkPhoto) := goodIn_app (goodIn_of _ (by decide +kernel)) ggX9_seesCell_X9_checkPhoto
set_option maxRecDepth 20000 in
theorem ggX9_seesCell_X9_isCell : GoodIn wsX9_seesCell wsX9_isCell := goodIn_r _ [25, 26, 27, 12, 13, 5, 14, 51, 52, 53, 54, 55, 56, 57, 58, 59, 60, 61, 62, 63, 64, 65, 66, 67, 68, 69, 70] (by decide +kernel) (by decide +kernel)
set_option maxRecDepth 20000 in
theorem gX9_seesCell_X9_isCell : GoodIn wsX9_seesCell (wsV RX9 61 RX9 yX9_isCell wsX9_isCell) := goodIn_app (goodIn_of _ (by decide +kernel)) ggX9_seesCell_X9_isCell
set_option maxRecDepth 20000 in
theorem ggX9_seesCell_X9_columnOf : GoodIn wsX9_seesCell wsX9_columnOf := goodIn_r _ [31, 20, 21, 51, 52, 53, 54, 55, 56, 57, 58, 59, 60, 61, 62, 63, 64, 65, 66, 67, 68, 69, 70] (by decide +kernel) (by decide +kernel)
set_option maxRecDepth 20000 in
theorem gX9_seesCell_X9_columnOf : GoodIn wsX9_seesCell (wsV RX9 90 RX9 yX9_columnOf wsX9_columnOf) := goodIn_app (goodIn_of _ (by decide +kernel)) ggX9_seesCell_X9_columnOf
set_option maxRecDepth 20000 in
theorem ggX9_seesCell_X9_sees : GoodIn wsX9_seesCell wsX9_sees := goodIn_r _ [35, 36, 37, 38, 39, 40, 41, 42, 5, 43, 44, 45, 46, 47, 48, 49, 50, 51, 52, 53, 54, 55, 56, 57, 58, 59, 60, 61, 62, 63, 64, 65, 66, 67, 68, 69, 70] (by decide +kernel) (by decide +kernel)
set_option maxRecDepth 20000 in
theorem gX9_seesCell_X9_sees : GoodIn wsX9_seesCell (wsV RX9 100 RX9 yX9_sees wsX9_sees) := goodIn_app (goodIn_of _ (by decide +kernel)) ggX9_seesCell_X9_sees
theorem dX9_seesCell_0 : decode cX9_seesCell 0 = .ok (.aload_n 0, 1) := by decide +kernel
theorem dX9_seesCell_1 : decode cX9_seesCell 1 = .ok (.iload_n 1, 1) := by decide +kernel
theorem dX9_seesCell_2 : decode cX9_seesCell 2 = .ok (.iload_n 2, 1) := by decide +kernel
theorem dX9_seesCell_3 : decode cX9_seesCell 3 = .ok (.invokevirtual 86, 3) := by decide +kernel
theorem dX9_seesCell_6 : decode cX9_seesCell 6 = .ok (.istore 5, 2) := by decide +kernel
theorem dX9_seesCell_8 : decode cX9_seesCell 8 = .ok (.iload 5, 2) := by decide +kernel
theorem dX9_seesCell_10 : decode cX9_seesCell 10 = .ok (.ifCond .ge 6, 3) := by decide +kernel
theorem dX9_seesCell_13 : decode cX9_seesCell 13 = .ok (.iload 5, 2) := by decide +kernel
theorem dX9_seesCell_15 : decode cX9_seesCell 15 = .ok (.ireturn, 1) := by decide +kernel
theorem dX9_seesCell_16 : decode cX9_seesCell 16 = .ok (.aload_n 0, 1) := by decide +kernel
theorem dX9_seesCell_17 : decode cX9_seesCell 17 = .ok (.iload_n 3, 1) := by decide +kernel
theorem dX9_seesCell_18 : decode cX9_seesCell 18 = .ok (.iload 4, 2) := by decide +kernel
theorem dX9_seesCell_20 : decode cX9_seesCell 20 = .ok (.invokevirtual 61, 3) := by decide +kernel
theorem dX9_seesCell_23 : decode cX9_seesCell 23 = .ok (.ifCond .ne 5, 3) := by decide +kernel
theorem dX9_seesCell_26 : decode cX9_seesCell 26 = .ok (.iconst (-1), 1) := by decide +kernel
theorem dX9_seesCell_27 : decode cX9_seesCell 27 = .ok (.ireturn, 1) := by decide +kernel
theorem dX9_seesCell_28 : decode cX9_seesCell 28 = .ok (.aload_n 0, 1) := by decide +kernel
theorem dX9_seesCell_29 : decode cX9_seesCell 29 = .ok (.aload_n 0, 1) := by decide +kernel
theorem dX9_seesCell_30 : decode cX9_seesCell 30 = .ok (.getfield 29, 3) := by decide +kernel
theorem dX9_seesCell_33 : decode cX9_seesCell 33 = .ok (.iload_n 1, 1) := by decide +kernel
theorem dX9_seesCell_34 : decode cX9_seesCell 34 = .ok (.iaload, 1) := by decide +kernel
theorem dX9_seesCell_35 : decode cX9_seesCell 35 = .ok (.aload_n 0, 1) := by decide +kernel
theorem dX9_seesCell_36 : decode cX9_seesCell 36 = .ok (.iload_n 1, 1) := by decide +kernel
theorem dX9_seesCell_37 : decode cX9_seesCell 37 = .ok (.iload_n 2, 1) := by decide +kernel
theorem dX9_seesCell_38 : decode cX9_seesCell 38 = .ok (.invokevirtual 90, 3) := by decide +kernel
theorem dX9_seesCell_41 : decode cX9_seesCell 41 = .ok (.iload_n 3, 1) := by decide +kernel
theorem dX9_seesCell_42 : decode cX9_seesCell 42 = .ok (.iload 4, 2) := by decide +kernel
theorem dX9_seesCell_44 : decode cX9_seesCell 44 = .ok (.invokevirtual 100, 3) := by decide +kernel
theorem dX9_seesCell_47 : decode cX9_seesCell 47 = .ok (.ifCond .eq 7, 3) := by decide +kernel
theorem dX9_seesCell_50 : decode cX9_seesCell 50 = .ok (.iconst 1, 1) := by decide +kernel
theorem dX9_seesCell_51 : decode cX9_seesCell 51 = .ok (.goto 4, 3) := by decide +kernel
theorem dX9_seesCell_54 : decode cX9_seesCell 54 = .ok (.iconst 0, 1) := by decide +kernel
theorem dX9_seesCell_55 : decode cX9_seesCell 55 = .ok (.ireturn, 1) := by decide +kernel
set_option maxRecDepth 20000 in
theorem ggX9_footprint_X9_photoSees : GoodIn wsX9_footprint wsX9_photoSees := goodIn_r _ [7, 8, 2, 9, 10, 11, 6, 12, 13, 14, 15, 16, 17, 18, 19, 20, 21, 22, 23, 24, 25, 26, 27, 28, 29, 30, 31, 32, 33, 34, 35, 36, 37, 38, 39, 40, 41, 42, 43, 44, 45, 46, 47, 48, 49, 50, 51, 52, 53] (by decide +kernel) (by decide +kernel)
set_option maxRecDepth 20000 in
theorem gX9_footprint_X9_photoSees : GoodIn wsX9_footprint (wsV RX9 104 RX9 yX9_photoSees wsX9_photoSees) := goodIn_app (goodIn_of _ (by decide +kernel)) ggX9_footprint_X9_photoSees
theorem dX9_footprint_0 : decode cX9_footprint 0 = .ok (.iconst 0, 1) := by decide +kernel
theorem dX9_footprint_1 : decode cX9_footprint 1 = .ok (.istore_n 3, 1) := by decide +kernel
theorem dX9_footprint_2 : decode cX9_footprint 2 = .ok (.iconst 0, 1) := by decide +kernel
theorem dX9_footprint_3 : decode cX9_footprint 3 = .ok (.istore 4, 2) := by decide +kernel
theorem dX9_footprint_5 : decode cX9_footprint 5 = .ok (.iload 4, 2) := by decide +kernel
theorem dX9_footprint_7 : decode cX9_footprint 7 = .ok (.aload_n 0, 1) := by decide +kernel
theorem dX9_footprint_8 : decode cX9_footprint 8 = .ok (.getfield 48, 3) := by decide +kernel
theorem dX9_footprint_11 : decode cX9_footprint 11 = .ok (.aload_n 0, 1) := by decide +kernel
theorem dX9_footprint_12 : decode cX9_footprint 12 = .ok (.getfield 51, 3) := by decide +kernel
theorem dX9_footprint_15 : decode cX9_footprint 15 = .ok (.imul, 1) := by decide +kernel
theorem dX9_footprint_16 : decode cX9_footprint 16 = .ok (.if_icmp .ge 28, 3) := by decide +kernel
theorem dX9_footprint_19 : decode cX9_footprint 19 = .ok (.iload_n 3, 1) := by decide +kernel
theorem dX9_footprint_20 : decode cX9_footprint 20 = .ok (.aload_n 0, 1) := by decide +kernel
theorem dX9_footprint_21 : decode cX9_footprint 21 = .ok (.iload_n 1, 1) := by decide +kernel
theorem dX9_footprint_22 : decode cX9_footprint 22 = .ok (.iload_n 2, 1) := by decide +kernel
theorem dX9_footprint_23 : decode cX9_footprint 23 = .ok (.iload 4, 2) := by decide +kernel
theorem dX9_footprint_25 : decode cX9_footprint 25 = .ok (.invokevirtual 104, 3) := by decide +kernel
theorem dX9_footprint_28 : decode cX9_footprint 28 = .ok (.ifCond .eq 7, 3) := by decide +kernel
theorem dX9_footprint_31 : decode cX9_footprint 31 = .ok (.iconst 1, 1) := by decide +kernel
theorem dX9_footprint_32 : decode cX9_footprint 32 = .ok (.goto 4, 3) := by decide +kernel
theorem dX9_footprint_35 : decode cX9_footprint 35 = .ok (.iconst 0, 1) := by decide +kernel
theorem dX9_footprint_36 : decode cX9_footprint 36 = .ok (.iadd, 1) := by decide +kernel
theorem dX9_footprint_37 : decode cX9_footprint 37 = .ok (.istore_n 3, 1) := by decide +kernel
theorem dX9_footprint_38 : decode cX9_footprint 38 = .ok (.iinc 4 1, 3) := by decide +kernel
theorem dX9_footprint_41 : decode cX9_footprint 41 = .ok (.goto (-36), 3) := by decide +kernel
theorem dX9_footprint_44 : decode cX9_footprint 44 = .ok (.iload_n 3, 1) := by decide +kernel
theorem dX9_footprint_45 : decode cX9_footprint 45 = .ok (.ireturn, 1) := by decide +kernel
set_option maxRecDepth 20000 in
theorem ggX9_footprintSize_X9_checkPhoto : GoodIn wsX9_footprintSize wsX9_checkPhoto := goodIn_r _ [5, 6, 7, 8, 4, 9, 10, 11, 12, 13, 14, 15, 16, 17, 18, 19, 20, 55, 56, 57, 58, 59, 60, 61, 62, 63, 64, 65, 66, 67, 68, 69, 70, 71, 72, 73, 74] (by decide +kernel) (by decide +kernel)
set_option maxRecDepth 20000 in
theorem gX9_footprintSize_X9_checkPhoto : GoodIn wsX9_footprintSize (wsV RX9 86 RX9 yX9_checkPhoto wsX9_checkPhoto) := goodIn_app (goodIn_of _ (by decide +kernel)) ggX9_footprintSize_X9_checkPhoto
set_option maxRecDepth 20000 in
theorem ggX9_footprintSize_X9_footprint : GoodIn wsX9_footprintSize wsX9_footprint := goodIn_r _ [24, 25, 26, 27, 28, 29, 4, 30, 31, 32, 33, 34, 35, 19, 20, 36, 37, 38, 39, 40, 41, 42, 43, 44, 45, 46, 47, 48, 49, 50, 51, 52, 53, 54, 55, 56, 57, 58, 59, 60, 61, 62, 63, 64, 65, 66, 67, 68, 69, 70, 71, 72, 73, 74] (by decide +kernel) (by decide +kernel)
set_option maxRecDepth 20000 in
theorem gX9_footprintSize_X9_footprint : GoodIn wsX9_footprintSize (wsV RX9 107 RX9 yX9_footprint wsX9_footprint) := goodIn_app (goodIn_of _ (by decide +kernel)) ggX9_footprintSize_X9_footprint
theorem dX9_footprintSize_0 : decode cX9_footprintSize 0 = .ok (.aload_n 0, 1) := by decide +kernel
theorem dX9_footprintSize_1 : decode cX9_footprintSize 1 = .ok (.iload_n 1, 1) := by decide +kernel
theorem dX9_footprintSize_2 : decode cX9_footprintSize 2 = .ok (.iload_n 2, 1) := by decide +kernel
theorem dX9_footprintSize_3 : decode cX9_footprintSize 3 = .ok (.invokevirtual 86, 3) := by decide +kernel
theorem dX9_footprintSize_6 : decode cX9_footprintSize 6 = .ok (.istore_n 3, 1) := by decide +kernel
theorem dX9_footprintSize_7 : decode cX9_footprintSize 7 = .ok (.iload_n 3, 1) := by decide +kernel
theorem dX9_footprintSize_8 : decode cX9_footprintSize 8 = .ok (.ifCond .ge 7, 3) := by decide +kernel
theorem dX9_footprintSize_11 : decode cX9_footprintSize 11 = .ok (.iload_n 3, 1) := by decide +kernel
theorem dX9_footprintSize_12 : decode cX9_footprintSize 12 = .ok (.goto 9, 3) := by decide +kernel
theorem dX9_footprintSize_15 : decode cX9_footprintSize 15 = .ok (.aload_n 0, 1) := by decide +kernel
theorem dX9_footprintSize_16 : decode cX9_footprintSize 16 = .ok (.iload_n 1, 1) := by decide +kernel
theorem dX9_footprintSize_17 : decode cX9_footprintSize 17 = .ok (.iload_n 2, 1) := by decide +kernel
theorem dX9_footprintSize_18 : decode cX9_footprintSize 18 = .ok (.invokevirtual 107, 3) := by decide +kernel
theorem dX9_footprintSize_21 : decode cX9_footprintSize 21 = .ok (.ireturn, 1) := by decide +kernel
set_option maxRecDepth 20000 in
theorem ggX9_coverageOf_X9_photosOf : GoodIn wsX9_coverageOf wsX9_photosOf := goodIn_r _ [6, 7, 8, 9, 39, 40, 41, 42, 43, 44, 45, 46, 47, 48, 49, 50, 51, 52, 53, 54, 55, 56, 57, 58] (by decide +kernel) (by decide +kernel)
set_option maxRecDepth 20000 in
theorem gX9_coverageOf_X9_photosOf : GoodIn wsX9_coverageOf (wsV RX9 83 RX9 yX9_photosOf wsX9_photosOf) := goodIn_app (goodIn_of _ (by decide +kernel)) ggX9_coverageOf_X9_photosOf
set_option maxRecDepth 20000 in
theorem ggX9_coverageOf_X9_photoSees : GoodIn wsX9_coverageOf wsX9_photoSees := goodIn_r _ [13, 14, 15, 16, 17, 18, 5, 19, 8, 9, 20, 21, 22, 23, 24, 25, 26, 27, 28, 29, 30, 31, 32, 33, 34, 35, 36, 37, 38, 39, 40, 41, 42, 43, 44, 45, 46, 47, 48, 49, 50, 51, 52, 53, 54, 55, 56, 57, 58] (by decide +kernel) (by decide +kernel)
set_option maxRecDepth 20000 in
theorem gX9_coverageOf_X9_photoSees : GoodIn wsX9_coverageOf (wsV RX9 104 RX9 yX9_photoSees wsX9_photoSees) := goodIn_app (goodIn_of _ (by decide +kernel)) ggX9_coverageOf_X9_photoSees
theorem dX9_coverageOf_0 : decode cX9_coverageOf 0 = .ok (.iconst 0, 1) := by decide +kernel
theorem dX9_coverageOf_1 : decode cX9_coverageOf 1 = .ok (.istore_n 2, 1) := by decide +kernel
theorem dX9_coverageOf_2 : decode cX9_coverageOf 2 = .ok (.iconst 0, 1) := by decide +kernel
theorem dX9_coverageOf_3 : decode cX9_coverageOf 3 = .ok (.istore_n 3, 1) := by decide +kernel
theorem dX9_coverageOf_4 : decode cX9_coverageOf 4 = .ok (.iload_n 3, 1) := by decide +kernel
theorem dX9_coverageOf_5 : decode cX9_coverageOf 5 = .ok (.aload_n 0, 1) := by decide +kernel
theorem dX9_coverageOf_6 : decode cX9_coverageOf 6 = .ok (.getfield 58, 3) := by decide +kernel
theorem dX9_coverageOf_9 : decode cX9_coverageOf 9 = .ok (.if_icmp .ge 47, 3) := by decide +kernel
theorem dX9_coverageOf_12 : decode cX9_coverageOf 12 = .ok (.iconst 0, 1) := by decide +kernel
theorem dX9_coverageOf_13 : decode cX9_coverageOf 13 = .ok (.istore 4, 2) := by decide +kernel
theorem dX9_coverageOf_15 : decode cX9_coverageOf 15 = .ok (.iload 4, 2) := by decide +kernel
theorem dX9_coverageOf_17 : decode cX9_coverageOf 17 = .ok (.aload_n 0, 1) := by decide +kernel
theorem dX9_coverageOf_18 : decode cX9_coverageOf 18 = .ok (.iload_n 3, 1) := by decide +kernel
theorem dX9_coverageOf_19 : decode cX9_coverageOf 19 = .ok (.invokevirtual 83, 3) := by decide +kernel
theorem dX9_coverageOf_22 : decode cX9_coverageOf 22 = .ok (.if_icmp .ge 28, 3) := by decide +kernel
theorem dX9_coverageOf_25 : decode cX9_coverageOf 25 = .ok (.iload_n 2, 1) := by decide +kernel
theorem dX9_coverageOf_26 : decode cX9_coverageOf 26 = .ok (.aload_n 0, 1) := by decide +kernel
theorem dX9_coverageOf_27 : decode cX9_coverageOf 27 = .ok (.iload_n 3, 1) := by decide +kernel
theorem dX9_coverageOf_28 : decode cX9_coverageOf 28 = .ok (.iload 4, 2) := by decide +kernel
theorem dX9_coverageOf_30 : decode cX9_coverageOf 30 = .ok (.iload_n 1, 1) := by decide +kernel
theorem dX9_coverageOf_31 : decode cX9_coverageOf 31 = .ok (.invokevirtual 104, 3) := by decide +kernel
theorem dX9_coverageOf_34 : decode cX9_coverageOf 34 = .ok (.ifCond .eq 7, 3) := by decide +kernel
theorem dX9_coverageOf_37 : decode cX9_coverageOf 37 = .ok (.iconst 1, 1) := by decide +kernel
theorem dX9_coverageOf_38 : decode cX9_coverageOf 38 = .ok (.goto 4, 3) := by decide +kernel
theorem dX9_coverageOf_41 : decode cX9_coverageOf 41 = .ok (.iconst 0, 1) := by decide +kernel
theorem dX9_coverageOf_42 : decode cX9_coverageOf 42 = .ok (.iadd, 1) := by decide +kernel
theorem dX9_coverageOf_43 : decode cX9_coverageOf 43 = .ok (.istore_n 2, 1) := by decide +kernel
theorem dX9_coverageOf_44 : decode cX9_coverageOf 44 = .ok (.iinc 4 1, 3) := by decide +kernel
theorem dX9_coverageOf_47 : decode cX9_coverageOf 47 = .ok (.goto (-32), 3) := by decide +kernel
theorem dX9_coverageOf_50 : decode cX9_coverageOf 50 = .ok (.iinc 3 1, 3) := by decide +kernel
theorem dX9_coverageOf_53 : decode cX9_coverageOf 53 = .ok (.goto (-49), 3) := by decide +kernel
theorem dX9_coverageOf_56 : decode cX9_coverageOf 56 = .ok (.iload_n 2, 1) := by decide +kernel
theorem dX9_coverageOf_57 : decode cX9_coverageOf 57 = .ok (.ireturn, 1) := by decide +kernel
set_option maxRecDepth 20000 in
theorem ggX9_coverage_X9_isCell : GoodIn wsX9_coverage wsX9_isCell := goodIn_r _ [6, 7, 1, 8, 9, 5, 10, 51, 52, 53, 54, 55, 56, 57, 58, 59, 60, 61, 62, 63, 64, 65, 66, 67, 68, 69, 70] (by decide +kernel) (by decide +kernel)
set_option maxRecDepth 20000 in
theorem gX9_coverage_X9_isCell : GoodIn wsX9_coverage (wsV RX9 61 RX9 yX9_isCell wsX9_isCell) := goodIn_app (goodIn_of _ (by decide +kernel)) ggX9_coverage_X9_isCell
set_option maxRecDepth 20000 in
theorem ggX9_coverage_X9_coverageOf : GoodIn wsX9_coverage wsX9_coverageOf := goodIn_r _ [14, 15, 16, 17, 18, 5, 19, 20, 21, 22, 23, 24, 25, 26, 27, 1, 28, 29, 30, 31, 32, 33, 34, 35, 36, 37, 38, 39, 40, 41, 42, 43, 44, 45, 46, 47, 48, 49, 50, 51, 52, 53, 54, 55, 56, 57, 58, 59, 60, 61, 62, 63, 64, 65, 66, 67, 68, 69, 70] (by decide +kernel) (by decide +kernel)
set_option maxRecDepth 20000 in
theorem gX9_coverage_X9_coverageOf : GoodIn wsX9_coverage (wsV RX9 110 RX9 yX9_coverageOf wsX9_coverageOf) := goodIn_app (goodIn_of _ (by decide +kernel)) ggX9_coverage_X9_coverageOf
theorem dX9_coverage_0 : decode cX9_coverage 0 = .ok (.aload_n 0, 1) := by decide +kernel
theorem dX9_coverage_1 : decode cX9_coverage 1 = .ok (.iload_n 1, 1) := by decide +kernel
theorem dX9_coverage_2 : decode cX9_coverage 2 = .ok (.iload_n 2, 1) := by decide +kernel
theorem dX9_coverage_3 : decode cX9_coverage 3 = .ok (.invokevirtual 61, 3) := by decide +kernel
theorem dX9_coverage_6 : decode cX9_coverage 6 = .ok (.ifCond .eq 18, 3) := by decide +kernel
theorem dX9_coverage_9 : decode cX9_coverage 9 = .ok (.aload_n 0, 1) := by decide +kernel
theorem dX9_coverage_10 : decode cX9_coverage 10 = .ok (.aload_n 0, 1) := by decide +kernel
theorem dX9_coverage_11 : decode cX9_coverage 11 = .ok (.getfield 51, 3) := by decide +kernel
theorem dX9_coverage_14 : decode cX9_coverage 14 = .ok (.iload_n 1, 1) := by decide +kernel
theorem dX9_coverage_15 : decode cX9_coverage 15 = .ok (.imul, 1) := by decide +kernel
theorem dX9_coverage_16 : decode cX9_coverage 16 = .ok (.iload_n 2, 1) := by decide +kernel
theorem dX9_coverage_17 : decode cX9_coverage 17 = .ok (.iadd, 1) := by decide +kernel
theorem dX9_coverage_18 : decode cX9_coverage 18 = .ok (.invokevirtual 110, 3) := by decide +kernel
theorem dX9_coverage_21 : decode cX9_coverage 21 = .ok (.goto 4, 3) := by decide +kernel
theorem dX9_coverage_24 : decode cX9_coverage 24 = .ok (.iconst (-1), 1) := by decide +kernel
theorem dX9_coverage_25 : decode cX9_coverage 25 = .ok (.ireturn, 1) := by decide +kernel
set_option maxRecDepth 20000 in
theorem ggX9_isRequired_X9_isBetween : GoodIn wsX9_isRequired wsX9_isBetween := goodIn_r _ [4] (by decide +kernel) (by decide +kernel)
set_option maxRecDepth 20000 in
theorem gX9_isRequired_X9_isBetween : GoodIn wsX9_isRequired (va_wsS RX9 54 yX9_isBetween wsX9_isBetween) := goodIn_app (goodIn_of _ (by decide +kernel)) ggX9_isRequired_X9_isBetween
theorem dX9_isRequired_0 : decode cX9_isRequired 0 = .ok (.iload_n 0, 1) := by decide +kernel
theorem dX9_isRequired_1 : decode cX9_isRequired 1 = .ok (.iconst 1, 1) := by decide +kernel
theorem dX9_isRequired_2 : decode cX9_isRequired 2 = .ok (.bipush 9, 2) := by decide +kernel
theorem dX9_isRequired_4 : decode cX9_isRequired 4 = .ok (.invokestatic 54, 3) := by decide +kernel
theorem dX9_isRequired_7 : decode cX9_isRequired 7 = .ok (.ireturn, 1) := by decide +kernel
set_option maxRecDepth 20000 in
theorem ggX9_gapCount_X9_isRequired : GoodIn wsX9_gapCount wsX9_isRequired := goodIn_r _ [6, 7, 8, 5, 9] (by decide +kernel) (by decide +kernel)
set_option maxRecDepth 20000 in
theorem gX9_gapCount_X9_isRequired : GoodIn wsX9_gapCount (va_wsS RX9 113 yX9_isRequired wsX9_isRequired) := goodIn_app (goodIn_of _ (by decide +kernel)) ggX9_gapCount_X9_isRequired
set_option maxRecDepth 20000 in
theorem ggX9_gapCount_X9_coverageOf : GoodIn wsX9_gapCount wsX9_coverageOf := goodIn_r _ [13, 14, 15, 16, 17, 5, 18, 19, 20, 21, 22, 23, 24, 25, 26, 2, 27, 28, 29, 30, 31, 32, 33, 34, 35, 36, 37, 38, 39, 40, 41, 42, 43, 44, 45, 46, 47, 48, 49, 50, 51, 52, 53, 54, 55, 56, 57, 58, 59, 60, 61, 62, 63, 64, 65, 66, 67, 68, 69] (by decide +kernel) (by decide +kernel)
set_option maxRecDepth 20000 in
theorem gX9_gapCount_X9_coverageOf : GoodIn wsX9_gapCount (wsV RX9 110 RX9 yX9_coverageOf wsX9_coverageOf) := goodIn_app (goodIn_of _ (by decide +kernel)) ggX9_gapCount_X9_coverageOf
theorem dX9_gapCount_0 : decode cX9_gapCount 0 = .ok (.iload_n 1, 1) := by decide +kernel
theorem dX9_gapCount_1 : decode cX9_gapCount 1 = .ok (.invokestatic 113, 3) := by decide +kernel
theorem dX9_gapCount_4 : decode cX9_gapCount 4 = .ok (.ifCond .ne 6, 3) := by decide +kernel
theorem dX9_gapCount_7 : decode cX9_gapCount 7 = .ok (.bipush (-4), 2) := by decide +kernel
theorem dX9_gapCount_9 : decode cX9_gapCount 9 = .ok (.ireturn, 1) := by decide +kernel
theorem dX9_gapCount_10 : decode cX9_gapCount 10 = .ok (.iconst 0, 1) := by decide +kernel
theorem dX9_gapCount_11 : decode cX9_gapCount 11 = .ok (.istore_n 2, 1) := by decide +kernel
theorem dX9_gapCount_12 : decode cX9_gapCount 12 = .ok (.iconst 0, 1) := by decide +kernel
theorem dX9_gapCount_13 : decode cX9_gapCount 13 = .ok (.istore_n 3, 1) := by decide +kernel
theorem dX9_gapCount_14 : decode cX9_gapCount 14 = .ok (.iload_n 3, 1) := by decide +kernel
theorem dX9_gapCount_15 : decode cX9_gapCount 15 = .ok (.aload_n 0, 1) := by decide +kernel
theorem dX9_gapCount_16 : decode cX9_gapCount 16 = .ok (.getfield 48, 3) := by decide +kernel
theorem dX9_gapCount_19 : decode cX9_gapCount 19 = .ok (.aload_n 0, 1) := by decide +kernel
theorem dX9_gapCount_20 : decode cX9_gapCount 20 = .ok (.getfield 51, 3) := by decide +kernel
theorem dX9_gapCount_23 : decode cX9_gapCount 23 = .ok (.imul, 1) := by decide +kernel
theorem dX9_gapCount_24 : decode cX9_gapCount 24 = .ok (.if_icmp .ge 26, 3) := by decide +kernel
theorem dX9_gapCount_27 : decode cX9_gapCount 27 = .ok (.iload_n 2, 1) := by decide +kernel
theorem dX9_gapCount_28 : decode cX9_gapCount 28 = .ok (.aload_n 0, 1) := by decide +kernel
theorem dX9_gapCount_29 : decode cX9_gapCount 29 = .ok (.iload_n 3, 1) := by decide +kernel
theorem dX9_gapCount_30 : decode cX9_gapCount 30 = .ok (.invokevirtual 110, 3) := by decide +kernel
theorem dX9_gapCount_33 : decode cX9_gapCount 33 = .ok (.iload_n 1, 1) := by decide +kernel
theorem dX9_gapCount_34 : decode cX9_gapCount 34 = .ok (.if_icmp .ge 7, 3) := by decide +kernel
theorem dX9_gapCount_37 : decode cX9_gapCount 37 = .ok (.iconst 1, 1) := by decide +kernel
theorem dX9_gapCount_38 : decode cX9_gapCount 38 = .ok (.goto 4, 3) := by decide +kernel
theorem dX9_gapCount_41 : decode cX9_gapCount 41 = .ok (.iconst 0, 1) := by decide +kernel
theorem dX9_gapCount_42 : decode cX9_gapCount 42 = .ok (.iadd, 1) := by decide +kernel
theorem dX9_gapCount_43 : decode cX9_gapCount 43 = .ok (.istore_n 2, 1) := by decide +kernel
theorem dX9_gapCount_44 : decode cX9_gapCount 44 = .ok (.iinc 3 1, 3) := by decide +kernel
theorem dX9_gapCount_47 : decode cX9_gapCount 47 = .ok (.goto (-33), 3) := by decide +kernel
theorem dX9_gapCount_50 : decode cX9_gapCount 50 = .ok (.iload_n 2, 1) := by decide +kernel
theorem dX9_gapCount_51 : decode cX9_gapCount 51 = .ok (.ireturn, 1) := by decide +kernel
set_option maxRecDepth 20000 in
theorem ggX9_gapAt_X9_isRequired : GoodIn wsX9_gapAt wsX9_isRequired := goodIn_r _ [6, 7, 8, 5, 9] (by decide +kernel) (by decide +kernel)
set_option maxRecDepth 20000 in
theorem gX9_gapAt_X9_isRequired : GoodIn wsX9_gapAt (va_wsS RX9 113 yX9_isRequired wsX9_isRequired) := goodIn_app (goodIn_of _ (by decide +kernel)) ggX9_gapAt_X9_isRequired
set_option maxRecDepth 20000 in
theorem ggX9_gapAt_X9_coverageOf : GoodIn wsX9_gapAt wsX9_coverageOf := goodIn_r _ [13, 14, 15, 16, 17, 5, 18, 19, 20, 21, 22, 23, 24, 25, 26, 2, 27, 28, 29, 30, 31, 32, 33, 34, 35, 36, 37, 38, 39, 40, 41, 42, 43, 44, 45, 46, 47, 48, 49, 50, 51, 52, 53, 54, 55, 56, 57, 58, 59, 60, 61, 62, 63, 64, 65, 66, 67, 68, 69] (by decide +kernel) (by decide +kernel)
set_option maxRecDepth 20000 in
theorem gX9_gapAt_X9_coverageOf : GoodIn wsX9_gapAt (wsV RX9 110 RX9 yX9_coverageOf wsX9_coverageOf) := goodIn_app (goodIn_of _ (by decide +kernel)) ggX9_gapAt_X9_coverageOf
theorem dX9_gapAt_0 : decode cX9_gapAt 0 = .ok (.iload_n 1, 1) := by decide +kernel
theorem dX9_gapAt_1 : decode cX9_gapAt 1 = .ok (.invokestatic 113, 3) := by decide +kernel
theorem dX9_gapAt_4 : decode cX9_gapAt 4 = .ok (.ifCond .eq 7, 3) := by decide +kernel
theorem dX9_gapAt_7 : decode cX9_gapAt 7 = .ok (.iload_n 2, 1) := by decide +kernel
theorem dX9_gapAt_8 : decode cX9_gapAt 8 = .ok (.ifCond .ge 6, 3) := by decide +kernel
theorem dX9_gapAt_11 : decode cX9_gapAt 11 = .ok (.bipush (-4), 2) := by decide +kernel
theorem dX9_gapAt_13 : decode cX9_gapAt 13 = .ok (.ireturn, 1) := by decide +kernel
theorem dX9_gapAt_14 : decode cX9_gapAt 14 = .ok (.iload_n 2, 1) := by decide +kernel
theorem dX9_gapAt_15 : decode cX9_gapAt 15 = .ok (.istore_n 3, 1) := by decide +kernel
theorem dX9_gapAt_16 : decode cX9_gapAt 16 = .ok (.iconst 0, 1) := by decide +kernel
theorem dX9_gapAt_17 : decode cX9_gapAt 17 = .ok (.istore 4, 2) := by decide +kernel
theorem dX9_gapAt_19 : decode cX9_gapAt 19 = .ok (.iload 4, 2) := by decide +kernel
theorem dX9_gapAt_21 : decode cX9_gapAt 21 = .ok (.aload_n 0, 1) := by decide +kernel
theorem dX9_gapAt_22 : decode cX9_gapAt 22 = .ok (.getfield 48, 3) := by decide +kernel
theorem dX9_gapAt_25 : decode cX9_gapAt 25 = .ok (.aload_n 0, 1) := by decide +kernel
