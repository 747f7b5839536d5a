theorem dX7_raise_29 : decode cX7_raise 29 = .ok (.iload_n 1, 1) := by decide +kernel
theorem dX7_raise_30 : decode cX7_raise 30 = .ok (.isub, 1) := by decide +kernel
theorem dX7_raise_31 : decode cX7_raise 31 = .ok (.invokestatic 22, 3) := by decide +kernel
theorem dX7_raise_34 : decode cX7_raise 34 = .ok (.iload 7, 2) := by decide +kernel
theorem dX7_raise_36 : decode cX7_raise 36 = .ok (.iload_n 2, 1) := by decide +kernel
theorem dX7_raise_37 : decode cX7_raise 37 = .ok (.isub, 1) := by decide +kernel
theorem dX7_raise_38 : decode cX7_raise 38 = .ok (.invokestatic 22, 3) := by decide +kernel
theorem dX7_raise_41 : decode cX7_raise 41 = .ok (.invokestatic 28, 3) := by decide +kernel
theorem dX7_raise_44 : decode cX7_raise 44 = .ok (.istore 8, 2) := by decide +kernel
theorem dX7_raise_46 : decode cX7_raise 46 = .ok (.iload 8, 2) := by decide +kernel
theorem dX7_raise_48 : decode cX7_raise 48 = .ok (.iload_n 3, 1) := by decide +kernel
theorem dX7_raise_49 : decode cX7_raise 49 = .ok (.if_icmp .gt 70, 3) := by decide +kernel
theorem dX7_raise_52 : decode cX7_raise 52 = .ok (.iload 4, 2) := by decide +kernel
theorem dX7_raise_54 : decode cX7_raise 54 = .ok (.iload_n 3, 1) := by decide +kernel
theorem dX7_raise_55 : decode cX7_raise 55 = .ok (.iconst 1, 1) := by decide +kernel
theorem dX7_raise_56 : decode cX7_raise 56 = .ok (.iadd, 1) := by decide +kernel
theorem dX7_raise_57 : decode cX7_raise 57 = .ok (.iload 8, 2) := by decide +kernel
theorem dX7_raise_59 : decode cX7_raise 59 = .ok (.isub, 1) := by decide +kernel
theorem dX7_raise_60 : decode cX7_raise 60 = .ok (.imul, 1) := by decide +kernel
theorem dX7_raise_61 : decode cX7_raise 61 = .ok (.iload_n 3, 1) := by decide +kernel
theorem dX7_raise_62 : decode cX7_raise 62 = .ok (.iconst 1, 1) := by decide +kernel
theorem dX7_raise_63 : decode cX7_raise 63 = .ok (.iadd, 1) := by decide +kernel
theorem dX7_raise_64 : decode cX7_raise 64 = .ok (.invokestatic 32, 3) := by decide +kernel
theorem dX7_raise_67 : decode cX7_raise 67 = .ok (.istore 9, 2) := by decide +kernel
theorem dX7_raise_69 : decode cX7_raise 69 = .ok (.aload_n 0, 1) := by decide +kernel
theorem dX7_raise_70 : decode cX7_raise 70 = .ok (.iload 6, 2) := by decide +kernel
theorem dX7_raise_72 : decode cX7_raise 72 = .ok (.iload 7, 2) := by decide +kernel
theorem dX7_raise_74 : decode cX7_raise 74 = .ok (.invokevirtual 35, 3) := by decide +kernel
theorem dX7_raise_77 : decode cX7_raise 77 = .ok (.istore 10, 2) := by decide +kernel
theorem dX7_raise_79 : decode cX7_raise 79 = .ok (.sipush 999, 3) := by decide +kernel
theorem dX7_raise_82 : decode cX7_raise 82 = .ok (.iload 10, 2) := by decide +kernel
theorem dX7_raise_84 : decode cX7_raise 84 = .ok (.iload 9, 2) := by decide +kernel
theorem dX7_raise_86 : decode cX7_raise 86 = .ok (.iadd, 1) := by decide +kernel
theorem dX7_raise_87 : decode cX7_raise 87 = .ok (.invokestatic 38, 3) := by decide +kernel
theorem dX7_raise_90 : decode cX7_raise 90 = .ok (.istore 11, 2) := by decide +kernel
theorem dX7_raise_92 : decode cX7_raise 92 = .ok (.aload_n 0, 1) := by decide +kernel
theorem dX7_raise_93 : decode cX7_raise 93 = .ok (.iload 6, 2) := by decide +kernel
theorem dX7_raise_95 : decode cX7_raise 95 = .ok (.iload 7, 2) := by decide +kernel
theorem dX7_raise_97 : decode cX7_raise 97 = .ok (.iload 11, 2) := by decide +kernel
theorem dX7_raise_99 : decode cX7_raise 99 = .ok (.invokevirtual 41, 3) := by decide +kernel
theorem dX7_raise_102 : decode cX7_raise 102 = .ok (.iload 5, 2) := by decide +kernel
theorem dX7_raise_104 : decode cX7_raise 104 = .ok (.iload 11, 2) := by decide +kernel
theorem dX7_raise_106 : decode cX7_raise 106 = .ok (.iload 10, 2) := by decide +kernel
theorem dX7_raise_108 : decode cX7_raise 108 = .ok (.if_icmp .eq 7, 3) := by decide +kernel
theorem dX7_raise_111 : decode cX7_raise 111 = .ok (.iconst 1, 1) := by decide +kernel
theorem dX7_raise_112 : decode cX7_raise 112 = .ok (.goto 4, 3) := by decide +kernel
theorem dX7_raise_115 : decode cX7_raise 115 = .ok (.iconst 0, 1) := by decide +kernel
theorem dX7_raise_116 : decode cX7_raise 116 = .ok (.iadd, 1) := by decide +kernel
theorem dX7_raise_117 : decode cX7_raise 117 = .ok (.istore 5, 2) := by decide +kernel
theorem dX7_raise_119 : decode cX7_raise 119 = .ok (.iinc 7 1, 3) := by decide +kernel
theorem dX7_raise_122 : decode cX7_raise 122 = .ok (.goto (-104), 3) := by decide +kernel
theorem dX7_raise_125 : decode cX7_raise 125 = .ok (.iinc 6 1, 3) := by decide +kernel
theorem dX7_raise_128 : decode cX7_raise 128 = .ok (.goto (-122), 3) := by decide +kernel
theorem dX7_raise_131 : decode cX7_raise 131 = .ok (.iload 5, 2) := by decide +kernel
theorem dX7_raise_133 : decode cX7_raise 133 = .ok (.ireturn, 1) := by decide +kernel
set_option maxRecDepth 20000 in
theorem ggX8_init_X7_init : GoodIn wsX8_init wsX7_init := goodIn_r _ [34, 35, 2, 3, 36, 37, 38, 39, 81, 82, 83] (by decide +kernel) (by decide +kernel)
set_option maxRecDepth 20000 in
theorem gX8_init_X7_init : GoodIn wsX8_init (wsX7_init) := ggX8_init_X7_init
set_option maxRecDepth 20000 in
theorem ggX8_init_X1_init : GoodIn wsX8_init wsX1_init := goodIn_r _ [42, 43, 2, 3, 44, 45, 46, 47, 91, 92, 93, 94] (by decide +kernel) (by decide +kernel)
set_option maxRecDepth 20000 in
theorem gX8_init_X1_init : GoodIn wsX8_init (wsX1_init) := ggX8_init_X1_init
set_option maxRecDepth 20000 in
theorem ggX8_init_X0_init : GoodIn wsX8_init wsX0_init := goodIn_r _ [50, 51, 2, 3, 52, 53, 54, 95, 96, 97] (by decide +kernel) (by decide +kernel)
set_option maxRecDepth 20000 in
theorem gX8_init_X0_init : GoodIn wsX8_init (wsX0_init) := ggX8_init_X0_init
set_option maxRecDepth 20000 in
theorem ggX8_init_X6_init : GoodIn wsX8_init wsX6_init := goodIn_r _ [57, 58, 2, 3, 59, 60, 61, 62, 63, 64, 65, 98, 99, 110, 111, 112, 113] (by decide +kernel) (by decide +kernel)
set_option maxRecDepth 20000 in
theorem gX8_init_X6_init : GoodIn wsX8_init (wsX6_init) := ggX8_init_X6_init
set_option maxRecDepth 20000 in
theorem ggX8_init_X2_init : GoodIn wsX8_init wsX2_init := goodIn_r _ [67, 68, 2, 3] (by decide +kernel) (by decide +kernel)
set_option maxRecDepth 20000 in
theorem gX8_init_X2_init_n39 : GoodIn wsX8_init (wsX2_init) := ggX8_init_X2_init
set_option maxRecDepth 20000 in
theorem ggX8_init_X3_init : GoodIn wsX8_init wsX3_init := goodIn_r _ [71, 72, 2, 3, 73, 17, 18, 74, 75, 56, 57, 58, 59, 60, 61, 62, 63, 64, 65, 98, 99, 103, 104, 105, 106, 110, 111, 112, 113] (by decide +kernel) (by decide +kernel)
set_option maxRecDepth 20000 in
theorem gX8_init_X3_init : GoodIn wsX8_init (wsX3_init) := ggX8_init_X3_init
set_option maxRecDepth 20000 in
theorem ggX8_init_X4_init : GoodIn wsX8_init wsX4_init := goodIn_r _ [78, 79, 2, 3, 38, 80, 107, 108, 109] (by decide +kernel) (by decide +kernel)
set_option maxRecDepth 20000 in
theorem gX8_init_X4_init : GoodIn wsX8_init (wsX4_init) := ggX8_init_X4_init
theorem dX8_init_0 : decode cX8_init 0 = .ok (.aload_n 0, 1) := by decide +kernel
theorem dX8_init_1 : decode cX8_init 1 = .ok (.invokespecial 3, 3) := by decide +kernel
theorem dX8_init_4 : decode cX8_init 4 = .ok (.aload_n 0, 1) := by decide +kernel
theorem dX8_init_5 : decode cX8_init 5 = .ok (.new 9, 3) := by decide +kernel
theorem dX8_init_8 : decode cX8_init 8 = .ok (.dup, 1) := by decide +kernel
theorem dX8_init_9 : decode cX8_init 9 = .ok (.invokespecial 11, 3) := by decide +kernel
theorem dX8_init_12 : decode cX8_init 12 = .ok (.putfield 12, 3) := by decide +kernel
theorem dX8_init_15 : decode cX8_init 15 = .ok (.aload_n 0, 1) := by decide +kernel
theorem dX8_init_16 : decode cX8_init 16 = .ok (.new 16, 3) := by decide +kernel
theorem dX8_init_19 : decode cX8_init 19 = .ok (.dup, 1) := by decide +kernel
theorem dX8_init_20 : decode cX8_init 20 = .ok (.invokespecial 18, 3) := by decide +kernel
theorem dX8_init_23 : decode cX8_init 23 = .ok (.putfield 19, 3) := by decide +kernel
theorem dX8_init_26 : decode cX8_init 26 = .ok (.aload_n 0, 1) := by decide +kernel
theorem dX8_init_27 : decode cX8_init 27 = .ok (.new 23, 3) := by decide +kernel
theorem dX8_init_30 : decode cX8_init 30 = .ok (.dup, 1) := by decide +kernel
theorem dX8_init_31 : decode cX8_init 31 = .ok (.invokespecial 25, 3) := by decide +kernel
theorem dX8_init_34 : decode cX8_init 34 = .ok (.putfield 26, 3) := by decide +kernel
theorem dX8_init_37 : decode cX8_init 37 = .ok (.aload_n 0, 1) := by decide +kernel
theorem dX8_init_38 : decode cX8_init 38 = .ok (.new 30, 3) := by decide +kernel
theorem dX8_init_41 : decode cX8_init 41 = .ok (.dup, 1) := by decide +kernel
theorem dX8_init_42 : decode cX8_init 42 = .ok (.invokespecial 32, 3) := by decide +kernel
theorem dX8_init_45 : decode cX8_init 45 = .ok (.putfield 33, 3) := by decide +kernel
theorem dX8_init_48 : decode cX8_init 48 = .ok (.aload_n 0, 1) := by decide +kernel
theorem dX8_init_49 : decode cX8_init 49 = .ok (.new 37, 3) := by decide +kernel
theorem dX8_init_52 : decode cX8_init 52 = .ok (.dup, 1) := by decide +kernel
theorem dX8_init_53 : decode cX8_init 53 = .ok (.invokespecial 39, 3) := by decide +kernel
theorem dX8_init_56 : decode cX8_init 56 = .ok (.putfield 40, 3) := by decide +kernel
theorem dX8_init_59 : decode cX8_init 59 = .ok (.aload_n 0, 1) := by decide +kernel
theorem dX8_init_60 : decode cX8_init 60 = .ok (.new 44, 3) := by decide +kernel
theorem dX8_init_63 : decode cX8_init 63 = .ok (.dup, 1) := by decide +kernel
theorem dX8_init_64 : decode cX8_init 64 = .ok (.invokespecial 46, 3) := by decide +kernel
theorem dX8_init_67 : decode cX8_init 67 = .ok (.putfield 47, 3) := by decide +kernel
theorem dX8_init_70 : decode cX8_init 70 = .ok (.aload_n 0, 1) := by decide +kernel
theorem dX8_init_71 : decode cX8_init 71 = .ok (.new 51, 3) := by decide +kernel
theorem dX8_init_74 : decode cX8_init 74 = .ok (.dup, 1) := by decide +kernel
theorem dX8_init_75 : decode cX8_init 75 = .ok (.invokespecial 53, 3) := by decide +kernel
theorem dX8_init_78 : decode cX8_init 78 = .ok (.putfield 54, 3) := by decide +kernel
theorem dX8_init_81 : decode cX8_init 81 = .ok (.return_, 1) := by decide +kernel
set_option maxRecDepth 20000 in
theorem ggX8_resize_X8_isWithin : GoodIn wsX8_resize wsX8_isWithin := goodIn_r _ [6] (by decide +kernel) (by decide +kernel)
set_option maxRecDepth 20000 in
theorem gX8_resize_X8_isWithin : GoodIn wsX8_resize (va_wsS RX8 58 yX8_isWithin wsX8_isWithin) := goodIn_app (goodIn_of _ (by decide +kernel)) ggX8_resize_X8_isWithin
set_option maxRecDepth 20000 in
theorem ggX8_resize_X7_flatten : GoodIn wsX8_resize wsX7_flatten := goodIn_r _ [11, 12, 13, 14, 28, 29, 30] (by decide +kernel) (by decide +kernel)
set_option maxRecDepth 20000 in
theorem gX8_resize_X7_flatten : GoodIn wsX8_resize (wsV RX8 62 RX7 yX7_flatten wsX7_flatten) := goodIn_app (goodIn_of _ (by decide +kernel)) ggX8_resize_X7_flatten
set_option maxRecDepth 20000 in
theorem ggX8_resize_X6_clear : GoodIn wsX8_resize wsX6_clear := goodIn_r _ [19, 20, 31, 32] (by decide +kernel) (by decide +kernel)
set_option maxRecDepth 20000 in
theorem gX8_resize_X6_clear : GoodIn wsX8_resize (wsV RX8 66 RX6 yX6_clear wsX6_clear) := goodIn_app (goodIn_of _ (by decide +kernel)) ggX8_resize_X6_clear
theorem dX8_resize_0 : decode cX8_resize 0 = .ok (.iload_n 1, 1) := by decide +kernel
theorem dX8_resize_1 : decode cX8_resize 1 = .ok (.iconst 3, 1) := by decide +kernel
theorem dX8_resize_2 : decode cX8_resize 2 = .ok (.bipush 10, 2) := by decide +kernel
theorem dX8_resize_4 : decode cX8_resize 4 = .ok (.invokestatic 58, 3) := by decide +kernel
theorem dX8_resize_7 : decode cX8_resize 7 = .ok (.ifCond .eq 13, 3) := by decide +kernel
theorem dX8_resize_10 : decode cX8_resize 10 = .ok (.iload_n 2, 1) := by decide +kernel
theorem dX8_resize_11 : decode cX8_resize 11 = .ok (.iconst 4, 1) := by decide +kernel
theorem dX8_resize_12 : decode cX8_resize 12 = .ok (.bipush 16, 2) := by decide +kernel
theorem dX8_resize_14 : decode cX8_resize 14 = .ok (.invokestatic 58, 3) := by decide +kernel
theorem dX8_resize_17 : decode cX8_resize 17 = .ok (.ifCond .ne 6, 3) := by decide +kernel
theorem dX8_resize_20 : decode cX8_resize 20 = .ok (.bipush (-4), 2) := by decide +kernel
theorem dX8_resize_22 : decode cX8_resize 22 = .ok (.ireturn, 1) := by decide +kernel
theorem dX8_resize_23 : decode cX8_resize 23 = .ok (.aload_n 0, 1) := by decide +kernel
theorem dX8_resize_24 : decode cX8_resize 24 = .ok (.getfield 12, 3) := by decide +kernel
theorem dX8_resize_27 : decode cX8_resize 27 = .ok (.iload_n 1, 1) := by decide +kernel
theorem dX8_resize_28 : decode cX8_resize 28 = .ok (.iload_n 2, 1) := by decide +kernel
theorem dX8_resize_29 : decode cX8_resize 29 = .ok (.invokevirtual 62, 3) := by decide +kernel
theorem dX8_resize_32 : decode cX8_resize 32 = .ok (.aload_n 0, 1) := by decide +kernel
theorem dX8_resize_33 : decode cX8_resize 33 = .ok (.getfield 33, 3) := by decide +kernel
theorem dX8_resize_36 : decode cX8_resize 36 = .ok (.invokevirtual 66, 3) := by decide +kernel
theorem dX8_resize_39 : decode cX8_resize 39 = .ok (.iload_n 1, 1) := by decide +kernel
theorem dX8_resize_40 : decode cX8_resize 40 = .ok (.iload_n 2, 1) := by decide +kernel
theorem dX8_resize_41 : decode cX8_resize 41 = .ok (.imul, 1) := by decide +kernel
theorem dX8_resize_42 : decode cX8_resize 42 = .ok (.ireturn, 1) := by decide +kernel
set_option maxRecDepth 20000 in
theorem ggX8_setHeight_X7_contains : GoodIn wsX8_setHeight wsX7_contains := goodIn_r _ [6, 7, 8, 29, 30, 31] (by decide +kernel) (by decide +kernel)
set_option maxRecDepth 20000 in
theorem gX8_setHeight_X7_contains : GoodIn wsX8_setHeight (wsV RX8 69 RX7 yX7_contains wsX7_contains) := goodIn_app (goodIn_of _ (by decide +kernel)) ggX8_setHeight_X7_contains
set_option maxRecDepth 20000 in
theorem ggX8_setHeight_X8_isWithin : GoodIn wsX8_setHeight wsX8_isWithin := goodIn_r _ [12] (by decide +kernel) (by decide +kernel)
set_option maxRecDepth 20000 in
theorem gX8_setHeight_X8_isWithin : GoodIn wsX8_setHeight (va_wsS RX8 58 yX8_isWithin wsX8_isWithin) := goodIn_app (goodIn_of _ (by decide +kernel)) ggX8_setHeight_X8_isWithin
set_option maxRecDepth 20000 in
theorem ggX8_setHeight_X7_heightAt : GoodIn wsX8_setHeight wsX7_heightAt := goodIn_r _ [16, 17, 29, 30, 31] (by decide +kernel) (by decide +kernel)
set_option maxRecDepth 20000 in
theorem gX8_setHeight_X7_heightAt : GoodIn wsX8_setHeight (wsV RX8 73 RX7 yX7_heightAt wsX7_heightAt) := goodIn_app (goodIn_of _ (by decide +kernel)) ggX8_setHeight_X7_heightAt
set_option maxRecDepth 20000 in
theorem ggX8_setHeight_X7_put : GoodIn wsX8_setHeight wsX7_put := goodIn_r _ [21, 17, 29, 30, 31] (by decide +kernel) (by decide +kernel)
set_option maxRecDepth 20000 in
theorem gX8_setHeight_X7_put : GoodIn wsX8_setHeight (wsV RX8 77 RX7 yX7_put wsX7_put) := goodIn_app (goodIn_of _ (by decide +kernel)) ggX8_setHeight_X7_put
theorem dX8_setHeight_0 : decode cX8_setHeight 0 = .ok (.aload_n 0, 1) := by decide +kernel
theorem dX8_setHeight_1 : decode cX8_setHeight 1 = .ok (.getfield 12, 3) := by decide +kernel
theorem dX8_setHeight_4 : decode cX8_setHeight 4 = .ok (.iload_n 1, 1) := by decide +kernel
theorem dX8_setHeight_5 : decode cX8_setHeight 5 = .ok (.iload_n 2, 1) := by decide +kernel
theorem dX8_setHeight_6 : decode cX8_setHeight 6 = .ok (.invokevirtual 69, 3) := by decide +kernel
theorem dX8_setHeight_9 : decode cX8_setHeight 9 = .ok (.ifCond .ne 5, 3) := by decide +kernel
theorem dX8_setHeight_12 : decode cX8_setHeight 12 = .ok (.iconst (-1), 1) := by decide +kernel
theorem dX8_setHeight_13 : decode cX8_setHeight 13 = .ok (.ireturn, 1) := by decide +kernel
theorem dX8_setHeight_14 : decode cX8_setHeight 14 = .ok (.iload_n 3, 1) := by decide +kernel
theorem dX8_setHeight_15 : decode cX8_setHeight 15 = .ok (.iconst 0, 1) := by decide +kernel
theorem dX8_setHeight_16 : decode cX8_setHeight 16 = .ok (.sipush 999, 3) := by decide +kernel
theorem dX8_setHeight_19 : decode cX8_setHeight 19 = .ok (.invokestatic 58, 3) := by decide +kernel
theorem dX8_setHeight_22 : decode cX8_setHeight 22 = .ok (.ifCond .ne 6, 3) := by decide +kernel
theorem dX8_setHeight_25 : decode cX8_setHeight 25 = .ok (.bipush (-4), 2) := by decide +kernel
theorem dX8_setHeight_27 : decode cX8_setHeight 27 = .ok (.ireturn, 1) := by decide +kernel
theorem dX8_setHeight_28 : decode cX8_setHeight 28 = .ok (.aload_n 0, 1) := by decide +kernel
theorem dX8_setHeight_29 : decode cX8_setHeight 29 = .ok (.getfield 12, 3) := by decide +kernel
theorem dX8_setHeight_32 : decode cX8_setHeight 32 = .ok (.iload_n 1, 1) := by decide +kernel
theorem dX8_setHeight_33 : decode cX8_setHeight 33 = .ok (.iload_n 2, 1) := by decide +kernel
theorem dX8_setHeight_34 : decode cX8_setHeight 34 = .ok (.invokevirtual 73, 3) := by decide +kernel
theorem dX8_setHeight_37 : decode cX8_setHeight 37 = .ok (.istore 4, 2) := by decide +kernel
theorem dX8_setHeight_39 : decode cX8_setHeight 39 = .ok (.aload_n 0, 1) := by decide +kernel
theorem dX8_setHeight_40 : decode cX8_setHeight 40 = .ok (.getfield 12, 3) := by decide +kernel
theorem dX8_setHeight_43 : decode cX8_setHeight 43 = .ok (.iload_n 1, 1) := by decide +kernel
theorem dX8_setHeight_44 : decode cX8_setHeight 44 = .ok (.iload_n 2, 1) := by decide +kernel
theorem dX8_setHeight_45 : decode cX8_setHeight 45 = .ok (.iload_n 3, 1) := by decide +kernel
theorem dX8_setHeight_46 : decode cX8_setHeight 46 = .ok (.invokevirtual 77, 3) := by decide +kernel
theorem dX8_setHeight_49 : decode cX8_setHeight 49 = .ok (.iload 4, 2) := by decide +kernel
theorem dX8_setHeight_51 : decode cX8_setHeight 51 = .ok (.ireturn, 1) := by decide +kernel
set_option maxRecDepth 20000 in
theorem ggX8_raiseHill_X7_contains : GoodIn wsX8_raiseHill wsX7_contains := goodIn_r _ [6, 7, 8, 45, 46, 47] (by decide +kernel) (by decide +kernel)
set_option maxRecDepth 20000 in
theorem gX8_raiseHill_X7_contains : GoodIn wsX8_raiseHill (wsV RX8 69 RX7 yX7_contains wsX7_contains) := goodIn_app (goodIn_of _ (by decide +kernel)) ggX8_raiseHill_X7_contains
set_option maxRecDepth 20000 in
theorem ggX8_raiseHill_X8_isWithin : GoodIn wsX8_raiseHill wsX8_isWithin := goodIn_r _ [12] (by decide +kernel) (by decide +kernel)
set_option maxRecDepth 20000 in
theorem gX8_raiseHill_X8_isWithin : GoodIn wsX8_raiseHill (va_wsS RX8 58 yX8_isWithin wsX8_isWithin) := goodIn_app (goodIn_of _ (by decide +kernel)) ggX8_raiseHill_X8_isWithin
set_option maxRecDepth 20000 in
theorem ggX8_raiseHill_X7_raise : GoodIn wsX8_raiseHill wsX7_raise := goodIn_r _ [16, 7, 8, 17, 18, 19, 20, 21, 22, 23, 24, 25, 26, 27, 11, 28, 29, 30, 31, 5, 32, 33, 34, 35, 36, 37, 45, 46, 47] (by decide +kernel) (by decide +kernel)
set_option maxRecDepth 20000 in
theorem gX8_raiseHill_X7_raise : GoodIn wsX8_raiseHill (wsV RX8 81 RX7 yX7_raise wsX7_raise) := goodIn_app (goodIn_of _ (by decide +kernel)) ggX8_raiseHill_X7_raise
theorem dX8_raiseHill_0 : decode cX8_raiseHill 0 = .ok (.aload_n 0, 1) := by decide +kernel
theorem dX8_raiseHill_1 : decode cX8_raiseHill 1 = .ok (.getfield 12, 3) := by decide +kernel
theorem dX8_raiseHill_4 : decode cX8_raiseHill 4 = .ok (.iload_n 1, 1) := by decide +kernel
theorem dX8_raiseHill_5 : decode cX8_raiseHill 5 = .ok (.iload_n 2, 1) := by decide +kernel
theorem dX8_raiseHill_6 : decode cX8_raiseHill 6 = .ok (.invokevirtual 69, 3) := by decide +kernel
theorem dX8_raiseHill_9 : decode cX8_raiseHill 9 = .ok (.ifCond .ne 5, 3) := by decide +kernel
theorem dX8_raiseHill_12 : decode cX8_raiseHill 12 = .ok (.iconst (-1), 1) := by decide +kernel
theorem dX8_raiseHill_13 : decode cX8_raiseHill 13 = .ok (.ireturn, 1) := by decide +kernel
theorem dX8_raiseHill_14 : decode cX8_raiseHill 14 = .ok (.iload_n 3, 1) := by decide +kernel
theorem dX8_raiseHill_15 : decode cX8_raiseHill 15 = .ok (.iconst 0, 1) := by decide +kernel
theorem dX8_raiseHill_16 : decode cX8_raiseHill 16 = .ok (.iconst 5, 1) := by decide +kernel
theorem dX8_raiseHill_17 : decode cX8_raiseHill 17 = .ok (.invokestatic 58, 3) := by decide +kernel
theorem dX8_raiseHill_20 : decode cX8_raiseHill 20 = .ok (.ifCond .eq 15, 3) := by decide +kernel
theorem dX8_raiseHill_23 : decode cX8_raiseHill 23 = .ok (.iload 4, 2) := by decide +kernel
theorem dX8_raiseHill_25 : decode cX8_raiseHill 25 = .ok (.iconst 1, 1) := by decide +kernel
theorem dX8_raiseHill_26 : decode cX8_raiseHill 26 = .ok (.sipush 999, 3) := by decide +kernel
theorem dX8_raiseHill_29 : decode cX8_raiseHill 29 = .ok (.invokestatic 58, 3) := by decide +kernel
theorem dX8_raiseHill_32 : decode cX8_raiseHill 32 = .ok (.ifCond .ne 6, 3) := by decide +kernel
theorem dX8_raiseHill_35 : decode cX8_raiseHill 35 = .ok (.bipush (-4), 2) := by decide +kernel
theorem dX8_raiseHill_37 : decode cX8_raiseHill 37 = .ok (.ireturn, 1) := by decide +kernel
theorem dX8_raiseHill_38 : decode cX8_raiseHill 38 = .ok (.aload_n 0, 1) := by decide +kernel
theorem dX8_raiseHill_39 : decode cX8_raiseHill 39 = .ok (.getfield 12, 3) := by decide +kernel
theorem dX8_raiseHill_42 : decode cX8_raiseHill 42 = .ok (.iload_n 1, 1) := by decide +kernel
theorem dX8_raiseHill_43 : decode cX8_raiseHill 43 = .ok (.iload_n 2, 1) := by decide +kernel
theorem dX8_raiseHill_44 : decode cX8_raiseHill 44 = .ok (.iload_n 3, 1) := by decide +kernel
theorem dX8_raiseHill_45 : decode cX8_raiseHill 45 = .ok (.iload 4, 2) := by decide +kernel
theorem dX8_raiseHill_47 : decode cX8_raiseHill 47 = .ok (.invokevirtual 81, 3) := by decide +kernel
theorem dX8_raiseHill_50 : decode cX8_raiseHill 50 = .ok (.ireturn, 1) := by decide +kernel
set_option maxRecDepth 20000 in
theorem ggX8_height_X7_contains : GoodIn wsX8_height wsX7_contains := goodIn_r _ [6, 7, 8, 21, 22, 23] (by decide +kernel) (by decide +kernel)
set_option maxRecDepth 20000 in
theorem gX8_height_X7_contains : GoodIn wsX8_height (wsV RX8 69 RX7 yX7_contains wsX7_contains) := goodIn_app (goodIn_of _ (by decide +kernel)) ggX8_height_X7_contains
set_option maxRecDepth 20000 in
theorem ggX8_height_X7_heightAt : GoodIn wsX8_height wsX7_heightAt := goodIn_r _ [12, 13, 21, 22, 23] (by decide +kernel) (by decide +kernel)
set_option maxRecDepth 20000 in
theorem gX8_height_X7_heightAt : GoodIn wsX8_height (wsV RX8 73 RX7 yX7_heightAt wsX7_heightAt) := goodIn_app (goodIn_of _ (by decide +kernel)) ggX8_height_X7_heightAt
theorem dX8_height_0 : decode cX8_height 0 = .ok (.aload_n 0, 1) := by decide +kernel
theorem dX8_height_1 : decode cX8_height 1 = .ok (.getfield 12, 3) := by decide +kernel
theorem dX8_height_4 : decode cX8_height 4 = .ok (.iload_n 1, 1) := by decide +kernel
theorem dX8_height_5 : decode cX8_height 5 = .ok (.iload_n 2, 1) := by decide +kernel
theorem dX8_height_6 : decode cX8_height 6 = .ok (.invokevirtual 69, 3) := by decide +kernel
theorem dX8_height_9 : decode cX8_height 9 = .ok (.ifCond .ne 5, 3) := by decide +kernel
theorem dX8_height_12 : decode cX8_height 12 = .ok (.iconst (-1), 1) := by decide +kernel
theorem dX8_height_13 : decode cX8_height 13 = .ok (.ireturn, 1) := by decide +kernel
theorem dX8_height_14 : decode cX8_height 14 = .ok (.aload_n 0, 1) := by decide +kernel
theorem dX8_height_15 : decode cX8_height 15 = .ok (.getfield 12, 3) := by decide +kernel
theorem dX8_height_18 : decode cX8_height 18 = .ok (.iload_n 1, 1) := by decide +kernel
theorem dX8_height_19 : decode cX8_height 19 = .ok (.iload_n 2, 1) := by decide +kernel
theorem dX8_height_20 : decode cX8_height 20 = .ok (.invokevirtual 73, 3) := by decide +kernel
theorem dX8_height_23 : decode cX8_height 23 = .ok (.ireturn, 1) := by decide +kernel
set_option maxRecDepth 20000 in
theorem ggX8_setAltitude_X8_isWithin : GoodIn wsX8_setAltitude wsX8_isWithin := goodIn_r _ [6] (by decide +kernel) (by decide +kernel)
set_option maxRecDepth 20000 in
theorem gX8_setAltitude_X8_isWithin : GoodIn wsX8_setAltitude (va_wsS RX8 58 yX8_isWithin wsX8_isWithin) := goodIn_app (goodIn_of _ (by decide +kernel)) ggX8_setAltitude_X8_isWithin
theorem dX8_setAltitude_0 : decode cX8_setAltitude 0 = .ok (.iload_n 1, 1) := by decide +kernel
theorem dX8_setAltitude_1 : decode cX8_setAltitude 1 = .ok (.bipush 100, 2) := by decide +kernel
theorem dX8_setAltitude_3 : decode cX8_setAltitude 3 = .ok (.sipush 5000, 3) := by decide +kernel
theorem dX8_setAltitude_6 : decode cX8_setAltitude 6 = .ok (.invokestatic 58, 3) := by decide +kernel
theorem dX8_setAltitude_9 : decode cX8_setAltitude 9 = .ok (.ifCond .ne 6, 3) := by decide +kernel
theorem dX8_setAltitude_12 : decode cX8_setAltitude 12 = .ok (.bipush (-4), 2) := by decide +kernel
theorem dX8_setAltitude_14 : decode cX8_setAltitude 14 = .ok (.ireturn, 1) := by decide +kernel
theorem dX8_setAltitude_15 : decode cX8_setAltitude 15 = .ok (.aload_n 0, 1) := by decide +kernel
theorem dX8_setAltitude_16 : decode cX8_setAltitude 16 = .ok (.getfield 19, 3) := by decide +kernel
theorem dX8_setAltitude_19 : decode cX8_setAltitude 19 = .ok (.getfield 85, 3) := by decide +kernel
theorem dX8_setAltitude_22 : decode cX8_setAltitude 22 = .ok (.istore_n 2, 1) := by decide +kernel
theorem dX8_setAltitude_23 : decode cX8_setAltitude 23 = .ok (.aload_n 0, 1) := by decide +kernel
theorem dX8_setAltitude_24 : decode cX8_setAltitude 24 = .ok (.getfield 19, 3) := by decide +kernel
theorem dX8_setAltitude_27 : decode cX8_setAltitude 27 = .ok (.iload_n 1, 1) := by decide +kernel
theorem dX8_setAltitude_28 : decode cX8_setAltitude 28 = .ok (.putfield 85, 3) := by decide +kernel
theorem dX8_setAltitude_31 : decode cX8_setAltitude 31 = .ok (.iload_n 2, 1) := by decide +kernel
theorem dX8_setAltitude_32 : decode cX8_setAltitude 32 = .ok (.ireturn, 1) := by decide +kernel
set_option maxRecDepth 20000 in
theorem ggX8_setFields_X8_isWithin : GoodIn wsX8_setFields wsX8_isWithin := goodIn_r _ [7] (by decide +kernel) (by decide +kernel)
set_option maxRecDepth 20000 in
theorem gX8_setFields_X8_isWithin : GoodIn wsX8_setFields (va_wsS RX8 58 yX8_isWithin wsX8_isWithin) := goodIn_app (goodIn_of _ (by decide +kernel)) ggX8_setFields_X8_isWithin
theorem dX8_setFields_0 : decode cX8_setFields 0 = .ok (.iload_n 1, 1) := by decide +kernel
theorem dX8_setFields_1 : decode cX8_setFields 1 = .ok (.iconst 1, 1) := by decide +kernel
theorem dX8_setFields_2 : decode cX8_setFields 2 = .ok (.bipush 50, 2) := by decide +kernel
theorem dX8_setFields_4 : decode cX8_setFields 4 = .ok (.invokestatic 58, 3) := by decide +kernel
theorem dX8_setFields_7 : decode cX8_setFields 7 = .ok (.ifCond .eq 13, 3) := by decide +kernel
theorem dX8_setFields_10 : decode cX8_setFields 10 = .ok (.iload_n 2, 1) := by decide +kernel
theorem dX8_setFields_11 : decode cX8_setFields 11 = .ok (.iconst 1, 1) := by decide +kernel
theorem dX8_setFields_12 : decode cX8_setFields 12 = .ok (.bipush 50, 2) := by decide +kernel
theorem dX8_setFields_14 : decode cX8_setFields 14 = .ok (.invokestatic 58, 3) := by decide +kernel
theorem dX8_setFields_17 : decode cX8_setFields 17 = .ok (.ifCond .ne 6, 3) := by decide +kernel
theorem dX8_setFields_20 : decode cX8_setFields 20 = .ok (.bipush (-4), 2) := by decide +kernel
theorem dX8_setFields_22 : decode cX8_setFields 22 = .ok (.ireturn, 1) := by decide +kernel
theorem dX8_setFields_23 : decode cX8_setFields 23 = .ok (.aload_n 0, 1) := by decide +kernel
theorem dX8_setFields_24 : decode cX8_setFields 24 = .ok (.getfield 19, 3) := by decide +kernel
theorem dX8_setFields_27 : decode cX8_setFields 27 = .ok (.getfield 89, 3) := by decide +kernel
theorem dX8_setFields_30 : decode cX8_setFields 30 = .ok (.iload_n 1, 1) := by decide +kernel
theorem dX8_setFields_31 : decode cX8_setFields 31 = .ok (.if_icmp .ne 14, 3) := by decide +kernel
theorem dX8_setFields_34 : decode cX8_setFields 34 = .ok (.aload_n 0, 1) := by decide +kernel
theorem dX8_setFields_35 : decode cX8_setFields 35 = .ok (.getfield 19, 3) := by decide +kernel
theorem dX8_setFields_38 : decode cX8_setFields 38 = .ok (.getfield 92, 3) := by decide +kernel
theorem dX8_setFields_41 : decode cX8_setFields 41 = .ok (.iload_n 2, 1) := by decide +kernel
theorem dX8_setFields_42 : decode cX8_setFields 42 = .ok (.if_icmp .eq 7, 3) := by decide +kernel
theorem dX8_setFields_45 : decode cX8_setFields 45 = .ok (.iconst 1, 1) := by decide +kernel
theorem dX8_setFields_46 : decode cX8_setFields 46 = .ok (.goto 4, 3) := by decide +kernel
theorem dX8_setFields_49 : decode cX8_setFields 49 = .ok (.iconst 0, 1) := by decide +kernel
theorem dX8_setFields_50 : decode cX8_setFields 50 = .ok (.istore_n 3, 1) := by decide +kernel
theorem dX8_setFields_51 : decode cX8_setFields 51 = .ok (.aload_n 0, 1) := by decide +kernel
theorem dX8_setFields_52 : decode cX8_setFields 52 = .ok (.getfield 19, 3) := by decide +kernel
theorem dX8_setFields_55 : decode cX8_setFields 55 = .ok (.iload_n 1, 1) := by decide +kernel
theorem dX8_setFields_56 : decode cX8_setFields 56 = .ok (.putfield 89, 3) := by decide +kernel
theorem dX8_setFields_59 : decode cX8_setFields 59 = .ok (.aload_n 0, 1) := by decide +kernel
theorem dX8_setFields_60 : decode cX8_setFields 60 = .ok (.getfield 19, 3) := by decide +kernel
theorem dX8_setFields_63 : decode cX8_setFields 63 = .ok (.iload_n 2, 1) := by decide +kernel
theorem dX8_setFields_64 : decode cX8_setFields 64 = .ok (.putfield 92, 3) := by decide +kernel
theorem dX8_setFields_67 : decode cX8_setFields 67 = .ok (.iload_n 3, 1) := by decide +kernel
theorem dX8_setFields_68 : decode cX8_setFields 68 = .ok (.ifCond .eq 7, 3) := by decide +kernel
theorem dX8_setFields_71 : decode cX8_setFields 71 = .ok (.iconst 1, 1) := by decide +kernel
theorem dX8_setFields_72 : decode cX8_setFields 72 = .ok (.goto 4, 3) := by decide +kernel
theorem dX8_setFields_75 : decode cX8_setFields 75 = .ok (.iconst 0, 1) := by decide +kernel
theorem dX8_setFields_76 : decode cX8_setFields 76 = .ok (.ireturn, 1) := by decide +kernel
set_option maxRecDepth 20000 in
theorem ggX8_setCrab_X8_isWithin : GoodIn wsX8_setCrab wsX8_isWithin := goodIn_r _ [6] (by decide +kernel) (by decide +kernel)
set_option maxRecDepth 20000 in
theorem gX8_setCrab_X8_isWithin : GoodIn wsX8_setCrab (va_wsS RX8 58 yX8_isWithin wsX8_isWithin) := goodIn_app (goodIn_of _ (by decide +kernel)) ggX8_setCrab_X8_isWithin
theorem dX8_setCrab_0 : decode cX8_setCrab 0 = .ok (.iload_n 1, 1) := by decide +kernel
theorem dX8_setCrab_1 : decode cX8_setCrab 1 = .ok (.bipush (-100), 2) := by decide +kernel
theorem dX8_setCrab_3 : decode cX8_setCrab 3 = .ok (.bipush 100, 2) := by decide +kernel
theorem dX8_setCrab_5 : decode cX8_setCrab 5 = .ok (.invokestatic 58, 3) := by decide +kernel
theorem dX8_setCrab_8 : decode cX8_setCrab 8 = .ok (.ifCond .ne 6, 3) := by decide +kernel
theorem dX8_setCrab_11 : decode cX8_setCrab 11 = .ok (.bipush (-4), 2) := by decide +kernel
theorem dX8_setCrab_13 : decode cX8_setCrab 13 = .ok (.ireturn, 1) := by decide +kernel
theorem dX8_setCrab_14 : decode cX8_setCrab 14 = .ok (.aload_n 0, 1) := by decide +kernel
theorem dX8_setCrab_15 : decode cX8_setCrab 15 = .ok (.getfield 19, 3) := by decide +kernel
theorem dX8_setCrab_18 : decode cX8_setCrab 18 = .ok (.getfield 95, 3) := by decide +kernel
theorem dX8_setCrab_21 : decode cX8_setCrab 21 = .ok (.iload_n 1, 1) := by decide +kernel
theorem dX8_setCrab_22 : decode cX8_setCrab 22 = .ok (.if_icmp .eq 7, 3) := by decide +kernel
theorem dX8_setCrab_25 : decode cX8_setCrab 25 = .ok (.iconst 1, 1) := by decide +kernel
theorem dX8_setCrab_26 : decode cX8_setCrab 26 = .ok (.goto 4, 3) := by decide +kernel
theorem dX8_setCrab_29 : decode cX8_setCrab 29 = .ok (.iconst 0, 1) := by decide +kernel
theorem dX8_setCrab_30 : decode cX8_setCrab 30 = .ok (.istore_n 2, 1) := by decide +kernel
theorem dX8_setCrab_31 : decode cX8_setCrab 31 = .ok (.aload_n 0, 1) := by decide +kernel
theorem dX8_setCrab_32 : decode cX8_setCrab 32 = .ok (.getfield 19, 3) := by decide +kernel
theorem dX8_setCrab_35 : decode cX8_setCrab 35 = .ok (.iload_n 1, 1) := by decide +kernel
theorem dX8_setCrab_36 : decode cX8_setCrab 36 = .ok (.putfield 95, 3) := by decide +kernel
theorem dX8_setCrab_39 : decode cX8_setCrab 39 = .ok (.iload_n 2, 1) := by decide +kernel
theorem dX8_setCrab_40 : decode cX8_setCrab 40 = .ok (.ifCond .eq 7, 3) := by decide +kernel
theorem dX8_setCrab_43 : decode cX8_setCrab 43 = .ok (.iconst 1, 1) := by decide +kernel
theorem dX8_setCrab_44 : decode cX8_setCrab 44 = .ok (.goto 4, 3) := by decide +kernel
theorem dX8_setCrab_47 : decode cX8_setCrab 47 = .ok (.iconst 0, 1) := by decide +kernel
theorem dX8_setCrab_48 : decode cX8_setCrab 48 = .ok (.ireturn, 1) := by decide +kernel
set_option maxRecDepth 20000 in
theorem ggX8_setSpeed_X8_isWithin : GoodIn wsX8_setSpeed wsX8_isWithin := goodIn_r _ [8] (by decide +kernel) (by decide +kernel)
set_option maxRecDepth 20000 in
theorem gX8_setSpeed_X8_isWithin : GoodIn wsX8_setSpeed (va_wsS RX8 58 yX8_isWithin wsX8_isWithin) := goodIn_app (goodIn_of _ (by decide +kernel)) ggX8_setSpeed_X8_isWithin
theorem dX8_setSpeed_0 : decode cX8_setSpeed 0 = .ok (.iload_n 1, 1) := by decide +kernel
theorem dX8_setSpeed_1 : decode cX8_setSpeed 1 = .ok (.bipush 50, 2) := by decide +kernel
theorem dX8_setSpeed_3 : decode cX8_setSpeed 3 = .ok (.sipush 300, 3) := by decide +kernel
theorem dX8_setSpeed_6 : decode cX8_setSpeed 6 = .ok (.invokestatic 58, 3) := by decide +kernel
theorem dX8_setSpeed_9 : decode cX8_setSpeed 9 = .ok (.ifCond .eq 25, 3) := by decide +kernel
theorem dX8_setSpeed_12 : decode cX8_setSpeed 12 = .ok (.iload_n 2, 1) := by decide +kernel
theorem dX8_setSpeed_13 : decode cX8_setSpeed 13 = .ok (.bipush (-40), 2) := by decide +kernel
theorem dX8_setSpeed_15 : decode cX8_setSpeed 15 = .ok (.bipush 40, 2) := by decide +kernel
theorem dX8_setSpeed_17 : decode cX8_setSpeed 17 = .ok (.invokestatic 58, 3) := by decide +kernel
theorem dX8_setSpeed_20 : decode cX8_setSpeed 20 = .ok (.ifCond .eq 14, 3) := by decide +kernel
theorem dX8_setSpeed_23 : decode cX8_setSpeed 23 = .ok (.iload_n 3, 1) := by decide +kernel
theorem dX8_setSpeed_24 : decode cX8_setSpeed 24 = .ok (.iconst 0, 1) := by decide +kernel
theorem dX8_setSpeed_25 : decode cX8_setSpeed 25 = .ok (.sipush 500, 3) := by decide +kernel
theorem dX8_setSpeed_28 : decode cX8_setSpeed 28 = .ok (.invokestatic 58, 3) := by decide +kernel
theorem dX8_setSpeed_31 : decode cX8_setSpeed 31 = .ok (.ifCond .ne 6, 3) := by decide +kernel
theorem dX8_setSpeed_34 : decode cX8_setSpeed 34 = .ok (.bipush (-4), 2) := by decide +kernel
theorem dX8_setSpeed_36 : decode cX8_setSpeed 36 = .ok (.ireturn, 1) := by decide +kernel
theorem dX8_setSpeed_37 : decode cX8_setSpeed 37 = .ok (.aload_n 0, 1) := by decide +kernel
theorem dX8_setSpeed_38 : decode cX8_setSpeed 38 = .ok (.getfield 26, 3) := by decide +kernel
theorem dX8_setSpeed_41 : decode cX8_setSpeed 41 = .ok (.getfield 98, 3) := by decide +kernel
theorem dX8_setSpeed_44 : decode cX8_setSpeed 44 = .ok (.iload_n 1, 1) := by decide +kernel
theorem dX8_setSpeed_45 : decode cX8_setSpeed 45 = .ok (.if_icmp .ne 25, 3) := by decide +kernel
theorem dX8_setSpeed_48 : decode cX8_setSpeed 48 = .ok (.aload_n 0, 1) := by decide +kernel
theorem dX8_setSpeed_49 : decode cX8_setSpeed 49 = .ok (.getfield 26, 3) := by decide +kernel
theorem dX8_setSpeed_52 : decode cX8_setSpeed 52 = .ok (.getfield 101, 3) := by decide +kernel
theorem dX8_setSpeed_55 : decode cX8_setSpeed 55 = .ok (.iload_n 2, 1) := by decide +kernel
theorem dX8_setSpeed_56 : decode cX8_setSpeed 56 = .ok (.if_icmp .ne 14, 3) := by decide +kernel
theorem dX8_setSpeed_59 : decode cX8_setSpeed 59 = .ok (.aload_n 0, 1) := by decide +kernel
theorem dX8_setSpeed_60 : decode cX8_setSpeed 60 = .ok (.getfield 26, 3) := by decide +kernel
theorem dX8_setSpeed_63 : decode cX8_setSpeed 63 = .ok (.getfield 104, 3) := by decide +kernel
theorem dX8_setSpeed_66 : decode cX8_setSpeed 66 = .ok (.iload_n 3, 1) := by decide +kernel
theorem dX8_setSpeed_67 : decode cX8_setSpeed 67 = .ok (.if_icmp .eq 7, 3) := by decide +kernel
theorem dX8_setSpeed_70 : decode cX8_setSpeed 70 = .ok (.iconst 1, 1) := by decide +kernel
theorem dX8_setSpeed_71 : decode cX8_setSpeed 71 = .ok (.goto 4, 3) := by decide +kernel
theorem dX8_setSpeed_74 : decode cX8_setSpeed 74 = .ok (.iconst 0, 1) := by decide +kernel
theorem dX8_setSpeed_75 : decode cX8_setSpeed 75 = .ok (.istore 4, 2) := by decide +kernel
theorem dX8_setSpeed_77 : decode cX8_setSpeed 77 = .ok (.aload_n 0, 1) := by decide +kernel
theorem dX8_setSpeed_78 : decode cX8_setSpeed 78 = .ok (.getfield 26, 3) := by decide +kernel
theorem dX8_setSpeed_81 : decode cX8_setSpeed 81 = .ok (.iload_n 1, 1) := by decide +kernel
theorem dX8_setSpeed_82 : decode cX8_setSpeed 82 = .ok (.putfield 98, 3) := by decide +kernel
theorem dX8_setSpeed_85 : decode cX8_setSpeed 85 = .ok (.aload_n 0, 1) := by decide +kernel
theorem dX8_setSpeed_86 : decode cX8_setSpeed 86 = .ok (.getfield 26, 3) := by decide +kernel
theorem dX8_setSpeed_89 : decode cX8_setSpeed 89 = .ok (.iload_n 2, 1) := by decide +kernel
theorem dX8_setSpeed_90 : decode cX8_setSpeed 90 = .ok (.putfield 101, 3) := by decide +kernel
theorem dX8_setSpeed_93 : decode cX8_setSpeed 93 = .ok (.aload_n 0, 1) := by decide +kernel
theorem dX8_setSpeed_94 : decode cX8_setSpeed 94 = .ok (.getfield 26, 3) := by decide +kernel
theorem dX8_setSpeed_97 : decode cX8_setSpeed 97 = .ok (.iload_n 3, 1) := by decide +kernel
theorem dX8_setSpeed_98 : decode cX8_setSpeed 98 = .ok (.putfield 104, 3) := by decide +kernel
theorem dX8_setSpeed_101 : decode cX8_setSpeed 101 = .ok (.iload 4, 2) := by decide +kernel
theorem dX8_setSpeed_103 : decode cX8_setSpeed 103 = .ok (.ifCond .eq 7, 3) := by decide +kernel
theorem dX8_setSpeed_106 : decode cX8_setSpeed 106 = .ok (.iconst 1, 1) := by decide +kernel
theorem dX8_setSpeed_107 : decode cX8_setSpeed 107 = .ok (.goto 4, 3) := by decide +kernel
theorem dX8_setSpeed_110 : decode cX8_setSpeed 110 = .ok (.iconst 0, 1) := by decide +kernel
theorem dX8_setSpeed_111 : decode cX8_setSpeed 111 = .ok (.ireturn, 1) := by decide +kernel
set_option maxRecDepth 20000 in
theorem ggX8_addStrip_X7_contains : GoodIn wsX8_addStrip wsX7_contains := goodIn_r _ [7, 8, 9, 41, 42, 43] (by decide +kernel) (by decide +kernel)
set_option maxRecDepth 20000 in
theorem gX8_addStrip_X7_contains : GoodIn wsX8_addStrip (wsV RX8 69 RX7 yX7_contains wsX7_contains) := goodIn_app (goodIn_of _ (by decide +kernel)) ggX8_addStrip_X7_contains
set_option maxRecDepth 20000 in
theorem ggX8_addStrip_X8_isWithin : GoodIn wsX8_addStrip wsX8_isWithin := goodIn_r _ [13] (by decide +kernel) (by decide +kernel)
set_option maxRecDepth 20000 in
theorem gX8_addStrip_X8_isWithin : GoodIn wsX8_addStrip (va_wsS RX8 58 yX8_isWithin wsX8_isWithin) := goodIn_app (goodIn_of _ (by decide +kernel)) ggX8_addStrip_X8_isWithin
set_option maxRecDepth 20000 in
theorem ggX8_addStrip_X6_add : GoodIn wsX8_addStrip wsX6_add := goodIn_r _ [18, 19, 20, 21, 22, 17, 23, 24, 25, 26, 27, 28, 29, 30, 31, 32, 33, 44, 45, 46, 47, 48, 49] (by decide +kernel) (by decide +kernel)
set_option maxRecDepth 20000 in
theorem gX8_addStrip_X6_add : GoodIn wsX8_addStrip (wsV RX8 107 RX6 yX6_add wsX6_add) := goodIn_app (goodIn_of _ (by decide +kernel)) ggX8_addStrip_X6_add
theorem dX8_addStrip_0 : decode cX8_addStrip 0 = .ok (.aload_n 0, 1) := by decide +kernel
theorem dX8_addStrip_1 : decode cX8_addStrip 1 = .ok (.getfield 12, 3) := by decide +kernel
theorem dX8_addStrip_4 : decode cX8_addStrip 4 = .ok (.iload_n 1, 1) := by decide +kernel
theorem dX8_addStrip_5 : decode cX8_addStrip 5 = .ok (.iload_n 2, 1) := by decide +kernel
theorem dX8_addStrip_6 : decode cX8_addStrip 6 = .ok (.invokevirtual 69, 3) := by decide +kernel
theorem dX8_addStrip_9 : decode cX8_addStrip 9 = .ok (.ifCond .eq 15, 3) := by decide +kernel
theorem dX8_addStrip_12 : decode cX8_addStrip 12 = .ok (.aload_n 0, 1) := by decide +kernel
theorem dX8_addStrip_13 : decode cX8_addStrip 13 = .ok (.getfield 12, 3) := by decide +kernel
theorem dX8_addStrip_16 : decode cX8_addStrip 16 = .ok (.iload_n 1, 1) := by decide +kernel
theorem dX8_addStrip_17 : decode cX8_addStrip 17 = .ok (.iload_n 3, 1) := by decide +kernel
theorem dX8_addStrip_18 : decode cX8_addStrip 18 = .ok (.invokevirtual 69, 3) := by decide +kernel
theorem dX8_addStrip_21 : decode cX8_addStrip 21 = .ok (.ifCond .ne 5, 3) := by decide +kernel
theorem dX8_addStrip_24 : decode cX8_addStrip 24 = .ok (.iconst (-1), 1) := by decide +kernel
theorem dX8_addStrip_25 : decode cX8_addStrip 25 = .ok (.ireturn, 1) := by decide +kernel
theorem dX8_addStrip_26 : decode cX8_addStrip 26 = .ok (.iload_n 3, 1) := by decide +kernel
theorem dX8_addStrip_27 : decode cX8_addStrip 27 = .ok (.iload_n 2, 1) := by decide +kernel
theorem dX8_addStrip_28 : decode cX8_addStrip 28 = .ok (.if_icmp .lt 14, 3) := by decide +kernel
theorem dX8_addStrip_31 : decode cX8_addStrip 31 = .ok (.iload 4, 2) := by decide +kernel
theorem dX8_addStrip_33 : decode cX8_addStrip 33 = .ok (.iconst 1, 1) := by decide +kernel
theorem dX8_addStrip_34 : decode cX8_addStrip 34 = .ok (.bipush 16, 2) := by decide +kernel
theorem dX8_addStrip_36 : decode cX8_addStrip 36 = .ok (.invokestatic 58, 3) := by decide +kernel
theorem dX8_addStrip_39 : decode cX8_addStrip 39 = .ok (.ifCond .ne 6, 3) := by decide +kernel
theorem dX8_addStrip_42 : decode cX8_addStrip 42 = .ok (.bipush (-4), 2) := by decide +kernel
theorem dX8_addStrip_44 : decode cX8_addStrip 44 = .ok (.ireturn, 1) := by decide +kernel
theorem dX8_addStrip_45 : decode cX8_addStrip 45 = .ok (.aload_n 0, 1) := by decide +kernel
theorem dX8_addStrip_46 : decode cX8_addStrip 46 = .ok (.getfield 33, 3) := by decide +kernel
theorem dX8_addStrip_49 : decode cX8_addStrip 49 = .ok (.iload_n 1, 1) := by decide +kernel
theorem dX8_addStrip_50 : decode cX8_addStrip 50 = .ok (.iload_n 2, 1) := by decide +kernel
theorem dX8_addStrip_51 : decode cX8_addStrip 51 = .ok (.iload_n 3, 1) := by decide +kernel
theorem dX8_addStrip_52 : decode cX8_addStrip 52 = .ok (.iload 4, 2) := by decide +kernel
theorem dX8_addStrip_54 : decode cX8_addStrip 54 = .ok (.invokevirtual 107, 3) := by decide +kernel
theorem dX8_addStrip_57 : decode cX8_addStrip 57 = .ok (.ireturn, 1) := by decide +kernel
set_option maxRecDepth 20000 in
theorem ggX8_removeStrip_X6_find : GoodIn wsX8_removeStrip wsX6_find := goodIn_r _ [7, 8, 9, 10, 11, 6, 12, 13, 39, 40] (by decide +kernel) (by decide +kernel)
set_option maxRecDepth 20000 in
theorem gX8_removeStrip_X6_find : GoodIn wsX8_removeStrip (wsV RX8 110 RX6 yX6_find wsX6_find) := goodIn_app (goodIn_of _ (by decide +kernel)) ggX8_removeStrip_X6_find
set_option maxRecDepth 20000 in
theorem ggX8_removeStrip_X6_remove : GoodIn wsX8_removeStrip wsX6_remove := goodIn_r _ [17, 8, 18, 19, 20, 21, 22, 4, 5, 6, 7, 9, 10, 11, 12, 13, 23, 24, 25, 26, 27, 28, 29, 30, 31, 39, 40, 41, 42, 43, 44] (by decide +kernel) (by decide +kernel)
set_option maxRecDepth 20000 in
theorem gX8_removeStrip_X6_remove : GoodIn wsX8_removeStrip (wsV RX8 114 RX6 yX6_remove wsX6_remove) := goodIn_app (goodIn_of _ (by decide +kernel)) ggX8_removeStrip_X6_remove
theorem dX8_removeStrip_0 : decode cX8_removeStrip 0 = .ok (.aload_n 0, 1) := by decide +kernel
theorem dX8_removeStrip_1 : decode cX8_removeStrip 1 = .ok (.getfield 33, 3) := by decide +kernel
theorem dX8_removeStrip_4 : decode cX8_removeStrip 4 = .ok (.iload_n 1, 1) := by decide +kernel
theorem dX8_removeStrip_5 : decode cX8_removeStrip 5 = .ok (.invokevirtual 110, 3) := by decide +kernel
theorem dX8_removeStrip_8 : decode cX8_removeStrip 8 = .ok (.ifnonnull 6, 3) := by decide +kernel
theorem dX8_removeStrip_11 : decode cX8_removeStrip 11 = .ok (.bipush (-2), 2) := by decide +kernel
theorem dX8_removeStrip_13 : decode cX8_removeStrip 13 = .ok (.ireturn, 1) := by decide +kernel
theorem dX8_removeStrip_14 : decode cX8_removeStrip 14 = .ok (.aload_n 0, 1) := by decide +kernel
theorem dX8_removeStrip_15 : decode cX8_removeStrip 15 = .ok (.getfield 33, 3) := by decide +kernel
theorem dX8_removeStrip_18 : decode cX8_removeStrip 18 = .ok (.iload_n 1, 1) := by decide +kernel
theorem dX8_removeStrip_19 : decode cX8_removeStrip 19 = .ok (.invokevirtual 114, 3) := by decide +kernel
theorem dX8_removeStrip_22 : decode cX8_removeStrip 22 = .ok (.aload_n 0, 1) := by decide +kernel
theorem dX8_removeStrip_23 : decode cX8_removeStrip 23 = .ok (.getfield 33, 3) := by decide +kernel
theorem dX8_removeStrip_26 : decode cX8_removeStrip 26 = .ok (.getfield 118, 3) := by decide +kernel
theorem dX8_removeStrip_29 : decode cX8_removeStrip 29 = .ok (.ireturn, 1) := by decide +kernel
theorem dX8_stripCount_0 : decode cX8_stripCount 0 = .ok (.aload_n 0, 1) := by decide +kernel
theorem dX8_stripCount_1 : decode cX8_stripCount 1 = .ok (.getfield 33, 3) := by decide +kernel
theorem dX8_stripCount_4 : decode cX8_stripCount 4 = .ok (.getfield 118, 3) := by decide +kernel
theorem dX8_stripCount_7 : decode cX8_stripCount 7 = .ok (.ireturn, 1) := by decide +kernel
set_option maxRecDepth 20000 in
theorem ggX8_photoCount_X6_find : GoodIn wsX8_photoCount wsX6_find := goodIn_r _ [6, 7, 8, 9, 10, 5, 11, 12, 31, 32] (by decide +kernel) (by decide +kernel)
set_option maxRecDepth 20000 in
theorem gX8_photoCount_X6_find : GoodIn wsX8_photoCount (wsV RX8 110 RX6 yX6_find wsX6_find) := goodIn_app (goodIn_of _ (by decide +kernel)) ggX8_photoCount_X6_find
set_option maxRecDepth 20000 in
theorem ggX8_photoCount_X5_photos : GoodIn wsX8_photoCount wsX5_photos := goodIn_r _ [17, 18, 19, 20, 21, 22, 23, 33, 34, 35, 36] (by decide +kernel) (by decide +kernel)
set_option maxRecDepth 20000 in
theorem gX8_photoCount_X5_photos : GoodIn wsX8_photoCount (wsV RX8 121 RX5 yX5_photos wsX5_photos) := goodIn_app (goodIn_of _ (by decide +kernel)) ggX8_photoCount_X5_photos
theorem dX8_photoCount_0 : decode cX8_photoCount 0 = .ok (.aload_n 0, 1) := by decide +kernel
theorem dX8_photoCount_1 : decode cX8_photoCount 1 = .ok (.getfield 33, 3) := by decide +kernel
theorem dX8_photoCount_4 : decode cX8_photoCount 4 = .ok (.iload_n 1, 1) := by decide +kernel
theorem dX8_photoCount_5 : decode cX8_photoCount 5 = .ok (.invokevirtual 110, 3) := by decide +kernel
theorem dX8_photoCount_8 : decode cX8_photoCount 8 = .ok (.astore_n 2, 1) := by decide +kernel
theorem dX8_photoCount_9 : decode cX8_photoCount 9 = .ok (.aload_n 2, 1) := by decide +kernel
theorem dX8_photoCount_10 : decode cX8_photoCount 10 = .ok (.ifnonnull 6, 3) := by decide +kernel
theorem dX8_photoCount_13 : decode cX8_photoCount 13 = .ok (.bipush (-2), 2) := by decide +kernel
theorem dX8_photoCount_15 : decode cX8_photoCount 15 = .ok (.ireturn, 1) := by decide +kernel
theorem dX8_photoCount_16 : decode cX8_photoCount 16 = .ok (.aload_n 2, 1) := by decide +kernel
theorem dX8_photoCount_17 : decode cX8_photoCount 17 = .ok (.invokevirtual 121, 3) := by decide +kernel
theorem dX8_photoCount_20 : decode cX8_photoCount 20 = .ok (.ireturn, 1) := by decide +kernel
set_option maxRecDepth 20000 in
theorem ggX8_photoColumn_X6_find : GoodIn wsX8_photoColumn wsX6_find := goodIn_r _ [6, 7, 8, 9, 10, 5, 11, 12, 39, 40] (by decide +kernel) (by decide +kernel)
set_option maxRecDepth 20000 in
theorem gX8_photoColumn_X6_find : GoodIn wsX8_photoColumn (wsV RX8 110 RX6 yX6_find wsX6_find) := goodIn_app (goodIn_of _ (by decide +kernel)) ggX8_photoColumn_X6_find
set_option maxRecDepth 20000 in
theorem ggX8_photoColumn_X5_hasPhoto : GoodIn wsX8_photoColumn wsX5_hasPhoto := goodIn_r _ [17, 18, 19, 20, 16, 21, 22, 23, 24, 25, 26, 27, 41, 42, 43, 44] (by decide +kernel) (by decide +kernel)
set_option maxRecDepth 20000 in
theorem gX8_photoColumn_X5_hasPhoto : GoodIn wsX8_photoColumn (wsV RX8 127 RX5 yX5_hasPhoto wsX5_hasPhoto) := goodIn_app (goodIn_of _ (by decide +kernel)) ggX8_photoColumn_X5_hasPhoto
set_option maxRecDepth 20000 in
theorem ggX8_photoColumn_X5_columnOf : GoodIn wsX8_photoColumn wsX5_columnOf := goodIn_r _ [31, 23, 24, 41, 42, 43, 44] (by decide +kernel) (by decide +kernel)
set_option maxRecDepth 20000 in
theorem gX8_photoColumn_X5_columnOf : GoodIn wsX8_photoColumn (wsV RX8 131 RX5 yX5_columnOf wsX5_columnOf) := goodIn_app (goodIn_of _ (by decide +kernel)) ggX8_photoColumn_X5_columnOf
theorem dX8_photoColumn_0 : decode cX8_photoColumn 0 = .ok (.aload_n 0, 1) := by decide +kernel
theorem dX8_photoColumn_1 : decode cX8_photoColumn 1 = .ok (.getfield 33, 3) := by decide +kernel
theorem dX8_photoColumn_4 : decode cX8_photoColumn 4 = .ok (.iload_n 1, 1) := by decide +kernel
theorem dX8_photoColumn_5 : decode cX8_photoColumn 5 = .ok (.invokevirtual 110, 3) := by decide +kernel
theorem dX8_photoColumn_8 : decode cX8_photoColumn 8 = .ok (.astore_n 3, 1) := by decide +kernel
theorem dX8_photoColumn_9 : decode cX8_photoColumn 9 = .ok (.aload_n 3, 1) := by decide +kernel
theorem dX8_photoColumn_10 : decode cX8_photoColumn 10 = .ok (.ifnonnull 6, 3) := by decide +kernel
theorem dX8_photoColumn_13 : decode cX8_photoColumn 13 = .ok (.bipush (-2), 2) := by decide +kernel
theorem dX8_photoColumn_15 : decode cX8_photoColumn 15 = .ok (.ireturn, 1) := by decide +kernel
theorem dX8_photoColumn_16 : decode cX8_photoColumn 16 = .ok (.aload_n 3, 1) := by decide +kernel
theorem dX8_photoColumn_17 : decode cX8_photoColumn 17 = .ok (.iload_n 2, 1) := by decide +kernel
theorem dX8_photoColumn_18 : decode cX8_photoColumn 18 = .ok (.invokevirtual 127, 3) := by decide +kernel
theorem dX8_photoColumn_21 : decode cX8_photoColumn 21 = .ok (.ifCond .ne 6, 3) := by decide +kernel
theorem dX8_photoColumn_24 : decode cX8_photoColumn 24 = .ok (.bipush (-3), 2) := by decide +kernel
theorem dX8_photoColumn_26 : decode cX8_photoColumn 26 = .ok (.ireturn, 1) := by decide +kernel
theorem dX8_photoColumn_27 : decode cX8_photoColumn 27 = .ok (.aload_n 3, 1) := by decide +kernel
theorem dX8_photoColumn_28 : decode cX8_photoColumn 28 = .ok (.iload_n 2, 1) := by decide +kernel
theorem dX8_photoColumn_29 : decode cX8_photoColumn 29 = .ok (.invokevirtual 131, 3) := by decide +kernel
theorem dX8_photoColumn_32 : decode cX8_photoColumn 32 = .ok (.ireturn, 1) := by decide +kernel
set_option maxRecDepth 20000 in
theorem ggX8_seesCell_X6_find : GoodIn wsX8_seesCell wsX6_find := goodIn_r _ [9, 10, 11, 12, 13, 8, 14, 15, 82, 83] (by decide +kernel) (by decide +kernel)
set_option maxRecDepth 20000 in
theorem gX8_seesCell_X6_find : GoodIn wsX8_seesCell (wsV RX8 110 RX6 yX6_find wsX6_find) := goodIn_app (goodIn_of _ (by decide +kernel)) ggX8_seesCell_X6_find
set_option maxRecDepth 20000 in
theorem ggX8_seesCell_X5_hasPhoto : GoodIn wsX8_seesCell wsX5_hasPhoto := goodIn_r _ [20, 21, 22, 23, 19, 24, 25, 26, 27, 28, 29, 30, 78, 79, 80, 81] (by decide +kernel) (by decide +kernel)
set_option maxRecDepth 20000 in
theorem gX8_seesCell_X5_hasPhoto : GoodIn wsX8_seesCell (wsV RX8 127 RX5 yX5_hasPhoto wsX5_hasPhoto) := goodIn_app (goodIn_of _ (by decide +kernel)) ggX8_seesCell_X5_hasPhoto
set_option maxRecDepth 20000 in
theorem ggX8_seesCell_X7_contains : GoodIn wsX8_seesCell wsX7_contains := goodIn_r _ [35, 36, 37, 84, 85, 86] (by decide +kernel) (by decide +kernel)
set_option maxRecDepth 20000 in
theorem gX8_seesCell_X7_contains : GoodIn wsX8_seesCell (wsV RX8 69 RX7 yX7_contains wsX7_contains) := goodIn_app (goodIn_of _ (by decide +kernel)) ggX8_seesCell_X7_contains
set_option maxRecDepth 20000 in
theorem ggX8_seesCell_X5_columnOf : GoodIn wsX8_seesCell wsX5_columnOf := goodIn_r _ [41, 26, 27, 78, 79, 80, 81] (by decide +kernel) (by decide +kernel)
set_option maxRecDepth 20000 in
theorem gX8_seesCell_X5_columnOf : GoodIn wsX8_seesCell (wsV RX8 131 RX5 yX5_columnOf wsX5_columnOf) := goodIn_app (goodIn_of _ (by decide +kernel)) ggX8_seesCell_X5_columnOf
set_option maxRecDepth 20000 in
theorem ggX8_seesCell_X1_sees : GoodIn wsX8_seesCell wsX1_sees := goodIn_r _ [46, 47, 48, 49, 50, 51, 52, 53, 54, 55, 56, 57, 34, 58, 59, 60, 61, 62, 45, 63, 64, 65, 66, 67, 68, 69, 70, 87, 88, 89, 90, 84, 85, 86] (by decide +kernel) (by decide +kernel)
set_option maxRecDepth 20000 in
theorem gX8_seesCell_X1_sees : GoodIn wsX8_seesCell (wsV RX8 138 RX1 yX1_sees wsX1_sees) := goodIn_app (goodIn_of _ (by decide +kernel)) ggX8_seesCell_X1_sees
theorem dX8_seesCell_0 : decode cX8_seesCell 0 = .ok (.aload_n 0, 1) := by decide +kernel
theorem dX8_seesCell_1 : decode cX8_seesCell 1 = .ok (.getfield 33, 3) := by decide +kernel
theorem dX8_seesCell_4 : decode cX8_seesCell 4 = .ok (.iload_n 1, 1) := by decide +kernel
theorem dX8_seesCell_5 : decode cX8_seesCell 5 = .ok (.invokevirtual 110, 3) := by decide +kernel
theorem dX8_seesCell_8 : decode cX8_seesCell 8 = .ok (.astore 5, 2) := by decide +kernel
theorem dX8_seesCell_10 : decode cX8_seesCell 10 = .ok (.aload 5, 2) := by decide +kernel
theorem dX8_seesCell_12 : decode cX8_seesCell 12 = .ok (.ifnonnull 6, 3) := by decide +kernel
theorem dX8_seesCell_15 : decode cX8_seesCell 15 = .ok (.bipush (-2), 2) := by decide +kernel
theorem dX8_seesCell_17 : decode cX8_seesCell 17 = .ok (.ireturn, 1) := by decide +kernel
theorem dX8_seesCell_18 : decode cX8_seesCell 18 = .ok (.aload 5, 2) := by decide +kernel
theorem dX8_seesCell_20 : decode cX8_seesCell 20 = .ok (.iload_n 2, 1) := by decide +kernel
theorem dX8_seesCell_21 : decode cX8_seesCell 21 = .ok (.invokevirtual 127, 3) := by decide +kernel
theorem dX8_seesCell_24 : decode cX8_seesCell 24 = .ok (.ifCond .ne 6, 3) := by decide +kernel
theorem dX8_seesCell_27 : decode cX8_seesCell 27 = .ok (.bipush (-3), 2) := by decide +kernel
theorem dX8_seesCell_29 : decode cX8_seesCell 29 = .ok (.ireturn, 1) := by decide +kernel
theorem dX8_seesCell_30 : decode cX8_seesCell 30 = .ok (.aload_n 0, 1) := by decide +kernel
theorem dX8_seesCell_31 : decode cX8_seesCell 31 = .ok (.getfield 12, 3) := by decide +kernel
theorem dX8_seesCell_34 : decode cX8_seesCell 34 = .ok (.iload_n 3, 1) := by decide +kernel
theorem dX8_seesCell_35 : decode cX8_seesCell 35 = .ok (.iload 4, 2) := by decide +kernel
theorem dX8_seesCell_37 : decode cX8_seesCell 37 = .ok (.invokevirtual 69, 3) := by decide +kernel
theorem dX8_seesCell_40 : decode cX8_seesCell 40 = .ok (.ifCond .ne 5, 3) := by decide +kernel
theorem dX8_seesCell_43 : decode cX8_seesCell 43 = .ok (.iconst (-1), 1) := by decide +kernel
theorem dX8_seesCell_44 : decode cX8_seesCell 44 = .ok (.ireturn, 1) := by decide +kernel
theorem dX8_seesCell_45 : decode cX8_seesCell 45 = .ok (.aload_n 0, 1) := by decide +kernel
theorem dX8_seesCell_46 : decode cX8_seesCell 46 = .ok (.getfield 19, 3) := by decide +kernel
theorem dX8_seesCell_49 : decode cX8_seesCell 49 = .ok (.aload_n 0, 1) := by decide +kernel
theorem dX8_seesCell_50 : decode cX8_seesCell 50 = .ok (.getfield 12, 3) := by decide +kernel
theorem dX8_seesCell_53 : decode cX8_seesCell 53 = .ok (.aload 5, 2) := by decide +kernel
theorem dX8_seesCell_55 : decode cX8_seesCell 55 = .ok (.getfield 135, 3) := by decide +kernel
theorem dX8_seesCell_58 : decode cX8_seesCell 58 = .ok (.aload 5, 2) := by decide +kernel
theorem dX8_seesCell_60 : decode cX8_seesCell 60 = .ok (.iload_n 2, 1) := by decide +kernel
theorem dX8_seesCell_61 : decode cX8_seesCell 61 = .ok (.invokevirtual 131, 3) := by decide +kernel
theorem dX8_seesCell_64 : decode cX8_seesCell 64 = .ok (.iload_n 3, 1) := by decide +kernel
theorem dX8_seesCell_65 : decode cX8_seesCell 65 = .ok (.iload 4, 2) := by decide +kernel
theorem dX8_seesCell_67 : decode cX8_seesCell 67 = .ok (.invokevirtual 138, 3) := by decide +kernel
theorem dX8_seesCell_70 : decode cX8_seesCell 70 = .ok (.ifCond .eq 7, 3) := by decide +kernel
theorem dX8_seesCell_73 : decode cX8_seesCell 73 = .ok (.iconst 1, 1) := by decide +kernel
theorem dX8_seesCell_74 : decode cX8_seesCell 74 = .ok (.goto 4, 3) := by decide +kernel
theorem dX8_seesCell_77 : decode cX8_seesCell 77 = .ok (.iconst 0, 1) := by decide +kernel
theorem dX8_seesCell_78 : decode cX8_seesCell 78 = .ok (.ireturn, 1) := by decide +kernel
set_option maxRecDepth 20000 in
theorem ggX8_footprintSize_X6_find : GoodIn wsX8_footprintSize wsX6_find := goodIn_r _ [11, 12, 13, 14, 15, 10, 16, 17, 81, 82] (by decide +kernel) (by decide +kernel)
set_option maxRecDepth 20000 in
theorem gX8_footprintSize_X6_find : GoodIn wsX8_footprintSize (wsV RX8 110 RX6 yX6_find wsX6_find) := goodIn_app (goodIn_of _ (by decide +kernel)) ggX8_footprintSize_X6_find
set_option maxRecDepth 20000 in
theorem ggX8_footprintSize_X5_hasPhoto : GoodIn wsX8_footprintSize wsX5_hasPhoto := goodIn_r _ [22, 23, 24, 25, 21, 26, 27, 28, 29, 30, 31, 32, 77, 78, 79, 80] (by decide +kernel) (by decide +kernel)
set_option maxRecDepth 20000 in
theorem gX8_footprintSize_X5_hasPhoto : GoodIn wsX8_footprintSize (wsV RX8 127 RX5 yX5_hasPhoto wsX5_hasPhoto) := goodIn_app (goodIn_of _ (by decide +kernel)) ggX8_footprintSize_X5_hasPhoto
set_option maxRecDepth 20000 in
theorem ggX8_footprintSize_X5_columnOf : GoodIn wsX8_footprintSize wsX5_columnOf := goodIn_r _ [36, 28, 29, 77, 78, 79, 80] (by decide +kernel) (by decide +kernel)
set_option maxRecDepth 20000 in
theorem gX8_footprintSize_X5_columnOf : GoodIn wsX8_footprintSize (wsV RX8 131 RX5 yX5_columnOf wsX5_columnOf) := goodIn_app (goodIn_of _ (by decide +kernel)) ggX8_footprintSize_X5_columnOf
set_option maxRecDepth 20000 in
theorem ggX8_footprintSize_X1_sees : GoodIn wsX8_footprintSize wsX1_sees := goodIn_r _ [41, 42, 43, 44, 45, 46, 47, 48, 49, 50, 51, 52, 53, 54, 55, 56, 57, 58, 40, 59, 60, 61, 62, 63, 64, 65, 66, 83, 84, 85, 86, 74, 75, 76] (by decide +kernel) (by decide +kernel)
set_option maxRecDepth 20000 in
theorem gX8_footprintSize_X1_sees : GoodIn wsX8_footprintSize (wsV RX8 138 RX1 yX1_sees wsX1_sees) := goodIn_app (goodIn_of _ (by decide +kernel)) ggX8_footprintSize_X1_sees
theorem dX8_footprintSize_0 : decode cX8_footprintSize 0 = .ok (.aload_n 0, 1) := by decide +kernel
theorem dX8_footprintSize_1 : decode cX8_footprintSize 1 = .ok (.getfield 33, 3) := by decide +kernel
theorem dX8_footprintSize_4 : decode cX8_footprintSize 4 = .ok (.iload_n 1, 1) := by decide +kernel
theorem dX8_footprintSize_5 : decode cX8_footprintSize 5 = .ok (.invokevirtual 110, 3) := by decide +kernel
theorem dX8_footprintSize_8 : decode cX8_footprintSize 8 = .ok (.astore_n 3, 1) := by decide +kernel
theorem dX8_footprintSize_9 : decode cX8_footprintSize 9 = .ok (.aload_n 3, 1) := by decide +kernel
theorem dX8_footprintSize_10 : decode cX8_footprintSize 10 = .ok (.ifnonnull 6, 3) := by decide +kernel
theorem dX8_footprintSize_13 : decode cX8_footprintSize 13 = .ok (.bipush (-2), 2) := by decide +kernel
theorem dX8_footprintSize_15 : decode cX8_footprintSize 15 = .ok (.ireturn, 1) := by decide +kernel
theorem dX8_footprintSize_16 : decode cX8_footprintSize 16 = .ok (.aload_n 3, 1) := by decide +kernel
theorem dX8_footprintSize_17 : decode cX8_footprintSize 17 = .ok (.iload_n 2, 1) := by decide +kernel
theorem dX8_footprintSize_18 : decode cX8_footprintSize 18 = .ok (.invokevirtual 127, 3) := by decide +kernel
theorem dX8_footprintSize_21 : decode cX8_footprintSize 21 = .ok (.ifCond .ne 6, 3) := by decide +kernel
theorem dX8_footprintSize_24 : decode cX8_footprintSize 24 = .ok (.bipush (-3), 2) := by decide +kernel
theorem dX8_footprintSize_26 : decode cX8_footprintSize 26 = .ok (.ireturn, 1) := by decide +kernel
theorem dX8_footprintSize_27 : decode cX8_footprintSize 27 = .ok (.aload_n 3, 1) := by decide +kernel
theorem dX8_footprintSize_28 : decode cX8_footprintSize 28 = .ok (.iload_n 2, 1) := by decide +kernel
theorem dX8_footprintSize_29 : decode cX8_footprintSize 29 = .ok (.invokevirtual 131, 3) := by decide +kernel
theorem dX8_footprintSize_32 : decode cX8_footprintSize 32 = .ok (.istore 4, 2) := by decide +kernel
theorem dX8_footprintSize_34 : decode cX8_footprintSize 34 = .ok (.iconst 0, 1) := by decide +kernel
theorem dX8_footprintSize_35 : decode cX8_footprintSize 35 = .ok (.istore 5, 2) := by decide +kernel
theorem dX8_footprintSize_37 : decode cX8_footprintSize 37 = .ok (.iconst 0, 1) := by decide +kernel
theorem dX8_footprintSize_38 : decode cX8_footprintSize 38 = .ok (.istore 6, 2) := by decide +kernel
theorem dX8_footprintSize_40 : decode cX8_footprintSize 40 = .ok (.iload 6, 2) := by decide +kernel
theorem dX8_footprintSize_42 : decode cX8_footprintSize 42 = .ok (.aload_n 0, 1) := by decide +kernel
theorem dX8_footprintSize_43 : decode cX8_footprintSize 43 = .ok (.getfield 12, 3) := by decide +kernel
theorem dX8_footprintSize_46 : decode cX8_footprintSize 46 = .ok (.getfield 142, 3) := by decide +kernel
theorem dX8_footprintSize_49 : decode cX8_footprintSize 49 = .ok (.if_icmp .ge 57, 3) := by decide +kernel
theorem dX8_footprintSize_52 : decode cX8_footprintSize 52 = .ok (.iconst 0, 1) := by decide +kernel
theorem dX8_footprintSize_53 : decode cX8_footprintSize 53 = .ok (.istore 7, 2) := by decide +kernel
theorem dX8_footprintSize_55 : decode cX8_footprintSize 55 = .ok (.iload 7, 2) := by decide +kernel
theorem dX8_footprintSize_57 : decode cX8_footprintSize 57 = .ok (.aload_n 0, 1) := by decide +kernel
theorem dX8_footprintSize_58 : decode cX8_footprintSize 58 = .ok (.getfield 12, 3) := by decide +kernel
theorem dX8_footprintSize_61 : decode cX8_footprintSize 61 = .ok (.getfield 145, 3) := by decide +kernel
theorem dX8_footprintSize_64 : decode cX8_footprintSize 64 = .ok (.if_icmp .ge 36, 3) := by decide +kernel
theorem dX8_footprintSize_67 : decode cX8_footprintSize 67 = .ok (.aload_n 0, 1) := by decide +kernel
theorem dX8_footprintSize_68 : decode cX8_footprintSize 68 = .ok (.getfield 19, 3) := by decide +kernel
theorem dX8_footprintSize_71 : decode cX8_footprintSize 71 = .ok (.aload_n 0, 1) := by decide +kernel
theorem dX8_footprintSize_72 : decode cX8_footprintSize 72 = .ok (.getfield 12, 3) := by decide +kernel
theorem dX8_footprintSize_75 : decode cX8_footprintSize 75 = .ok (.aload_n 3, 1) := by decide +kernel
theorem dX8_footprintSize_76 : decode cX8_footprintSize 76 = .ok (.getfield 135, 3) := by decide +kernel
theorem dX8_footprintSize_79 : decode cX8_footprintSize 79 = .ok (.iload 4, 2) := by decide +kernel
theorem dX8_footprintSize_81 : decode cX8_footprintSize 81 = .ok (.iload 6, 2) := by decide +kernel
theorem dX8_footprintSize_83 : decode cX8_footprintSize 83 = .ok (.iload 7, 2) := by decide +kernel
theorem dX8_footprintSize_85 : decode cX8_footprintSize 85 = .ok (.invokevirtual 138, 3) := by decide +kernel
theorem dX8_footprintSize_88 : decode cX8_footprintSize 88 = .ok (.ifCond .eq 6, 3) := by decide +kernel
theorem dX8_footprintSize_91 : decode cX8_footprintSize 91 = .ok (.iinc 5 1, 3) := by decide +kernel
theorem dX8_footprintSize_94 : decode cX8_footprintSize 94 = .ok (.iinc 7 1, 3) := by decide +kernel
theorem dX8_footprintSize_97 : decode cX8_footprintSize 97 = .ok (.goto (-42), 3) := by decide +kernel
theorem dX8_footprintSize_100 : decode cX8_footprintSize 100 = .ok (.iinc 6 1, 3) := by decide +kernel
theorem dX8_footprintSize_103 : decode cX8_footprintSize 103 = .ok (.goto (-63), 3) := by decide +kernel
theorem dX8_footprintSize_106 : decode cX8_footprintSize 106 = .ok (.iload 5, 2) := by decide +kernel
theorem dX8_footprintSize_108 : decode cX8_footprintSize 108 = .ok (.ireturn, 1) := by decide +kernel
set_option maxRecDepth 20000 in
theorem ggX8_coverage_X7_contains : GoodIn wsX8_coverage wsX7_contains := goodIn_r _ [8, 9, 10, 78, 79, 80] (by decide +kernel) (by decide +kernel)
set_option maxRecDepth 20000 in
theorem gX8_coverage_X7_contains : GoodIn wsX8_coverage (wsV RX8 69 RX7 yX7_contains wsX7_contains) := goodIn_app (goodIn_of _ (by decide +kernel)) ggX8_coverage_X7_contains
set_option maxRecDepth 20000 in
theorem ggX8_coverage_X6_views : GoodIn wsX8_coverage wsX6_views := goodIn_r _ [15, 16, 17, 18, 19, 20, 14, 21, 22, 23, 24, 25, 26, 27, 28, 29, 30, 31, 32, 33, 34, 35, 36, 37, 38, 39, 40, 41, 42, 43, 44, 45, 46, 47, 48, 49, 50, 51, 52, 53, 54, 55, 56, 57, 7, 58, 59, 60, 61, 62, 63, 64, 65, 66, 67, 68, 69, 70, 81, 82, 83, 84, 85, 86, 87, 88, 89, 90, 78, 79, 80] (by decide +kernel) (by decide +kernel)
set_option maxRecDepth 20000 in
theorem gX8_coverage_X6_views : GoodIn wsX8_coverage (wsV RX8 148 RX6 yX6_views wsX6_views) := goodIn_app (goodIn_of _ (by decide +kernel)) ggX8_coverage_X6_views
theorem dX8_coverage_0 : decode cX8_coverage 0 = .ok (.aload_n 0, 1) := by decide +kernel
theorem dX8_coverage_1 : decode cX8_coverage 1 = .ok (.getfield 12, 3) := by decide +kernel
theorem dX8_coverage_4 : decode cX8_coverage 4 = .ok (.iload_n 1, 1) := by decide +kernel
theorem dX8_coverage_5 : decode cX8_coverage 5 = .ok (.iload_n 2, 1) := by decide +kernel
theorem dX8_coverage_6 : decode cX8_coverage 6 = .ok (.invokevirtual 69, 3) := by decide +kernel
theorem dX8_coverage_9 : decode cX8_coverage 9 = .ok (.ifCond .ne 5, 3) := by decide +kernel
theorem dX8_coverage_12 : decode cX8_coverage 12 = .ok (.iconst (-1), 1) := by decide +kernel
theorem dX8_coverage_13 : decode cX8_coverage 13 = .ok (.ireturn, 1) := by decide +kernel
theorem dX8_coverage_14 : decode cX8_coverage 14 = .ok (.aload_n 0, 1) := by decide +kernel
theorem dX8_coverage_15 : decode cX8_coverage 15 = .ok (.getfield 33, 3) := by decide +kernel
theorem dX8_coverage_18 : decode cX8_coverage 18 = .ok (.aload_n 0, 1) := by decide +kernel
theorem dX8_coverage_19 : decode cX8_coverage 19 = .ok (.getfield 12, 3) := by decide +kernel
theorem dX8_coverage_22 : decode cX8_coverage 22 = .ok (.aload_n 0, 1) := by decide +kernel
theorem dX8_coverage_23 : decode cX8_coverage 23 = .ok (.getfield 19, 3) := by decide +kernel
theorem dX8_coverage_26 : decode cX8_coverage 26 = .ok (.iload_n 1, 1) := by decide +kernel
theorem dX8_coverage_27 : decode cX8_coverage 27 = .ok (.iload_n 2, 1) := by decide +kernel
theorem dX8_coverage_28 : decode cX8_coverage 28 = .ok (.sipush 128, 3) := by decide +kernel
theorem dX8_coverage_31 : decode cX8_coverage 31 = .ok (.invokevirtual 148, 3) := by decide +kernel
theorem dX8_coverage_34 : decode cX8_coverage 34 = .ok (.ireturn, 1) := by decide +kernel
set_option maxRecDepth 20000 in
theorem ggX8_gapCount_X8_isWithin : GoodIn wsX8_gapCount wsX8_isWithin := goodIn_r _ [9] (by decide +kernel) (by decide +kernel)
set_option maxRecDepth 20000 in
theorem gX8_gapCount_X8_isWithin : GoodIn wsX8_gapCount (va_wsS RX8 58 yX8_isWithin wsX8_isWithin) := goodIn_app (goodIn_of _ (by decide +kernel)) ggX8_gapCount_X8_isWithin
set_option maxRecDepth 20000 in
theorem ggX8_gapCount_X6_views : GoodIn wsX8_gapCount wsX6_views := goodIn_r _ [14, 15, 16, 17, 18, 19, 13, 20, 21, 22, 23, 24, 25, 26, 27, 28, 29, 30, 31, 32, 33, 34, 8, 35, 36, 37, 38, 39, 40, 41, 42, 43, 44, 45, 46, 47, 48, 49, 50, 51, 52, 53, 54, 55, 56, 57, 58, 59, 60, 61, 62, 63, 64, 65, 66, 67, 68, 69, 80, 81, 82, 83, 84, 85, 86, 87, 88, 89, 77, 78, 79] (by decide +kernel) (by decide +kernel)
set_option maxRecDepth 20000 in
theorem gX8_gapCount_X6_views : GoodIn wsX8_gapCount (wsV RX8 148 RX6 yX6_views wsX6_views) := goodIn_app (goodIn_of _ (by decide +kernel)) ggX8_gapCount_X6_views
theorem dX8_gapCount_0 : decode cX8_gapCount 0 = .ok (.iload_n 1, 1) := by decide +kernel
theorem dX8_gapCount_1 : decode cX8_gapCount 1 = .ok (.iconst 1, 1) := by decide +kernel
theorem dX8_gapCount_2 : decode cX8_gapCount 2 = .ok (.bipush 9, 2) := by decide +kernel
theorem dX8_gapCount_4 : decode cX8_gapCount 4 = .ok (.invokestatic 58, 3) := by decide +kernel
theorem dX8_gapCount_7 : decode cX8_gapCount 7 = .ok (.ifCond .ne 6, 3) := by decide +kernel
theorem dX8_gapCount_10 : decode cX8_gapCount 10 = .ok (.bipush (-4), 2) := by decide +kernel
theorem dX8_gapCount_12 : decode cX8_gapCount 12 = .ok (.ireturn, 1) := by decide +kernel
theorem dX8_gapCount_13 : decode cX8_gapCount 13 = .ok (.iconst 0, 1) := by decide +kernel
theorem dX8_gapCount_14 : decode cX8_gapCount 14 = .ok (.istore_n 2, 1) := by decide +kernel
theorem dX8_gapCount_15 : decode cX8_gapCount 15 = .ok (.iconst 0, 1) := by decide +kernel
theorem dX8_gapCount_16 : decode cX8_gapCount 16 = .ok (.istore_n 3, 1) := by decide +kernel
theorem dX8_gapCount_17 : decode cX8_gapCount 17 = .ok (.iload_n 3, 1) := by decide +kernel
theorem dX8_gapCount_18 : decode cX8_gapCount 18 = .ok (.aload_n 0, 1) := by decide +kernel
theorem dX8_gapCount_19 : decode cX8_gapCount 19 = .ok (.getfield 12, 3) := by decide +kernel
theorem dX8_gapCount_22 : decode cX8_gapCount 22 = .ok (.getfield 142, 3) := by decide +kernel
theorem dX8_gapCount_25 : decode cX8_gapCount 25 = .ok (.if_icmp .ge 56, 3) := by decide +kernel
theorem dX8_gapCount_28 : decode cX8_gapCount 28 = .ok (.iconst 0, 1) := by decide +kernel
theorem dX8_gapCount_29 : decode cX8_gapCount 29 = .ok (.istore 4, 2) := by decide +kernel
theorem dX8_gapCount_31 : decode cX8_gapCount 31 = .ok (.iload 4, 2) := by decide +kernel
theorem dX8_gapCount_33 : decode cX8_gapCount 33 = .ok (.aload_n 0, 1) := by decide +kernel
theorem dX8_gapCount_34 : decode cX8_gapCount 34 = .ok (.getfield 12, 3) := by decide +kernel
theorem dX8_gapCount_37 : decode cX8_gapCount 37 = .ok (.getfield 145, 3) := by decide +kernel
theorem dX8_gapCount_40 : decode cX8_gapCount 40 = .ok (.if_icmp .ge 35, 3) := by decide +kernel
theorem dX8_gapCount_43 : decode cX8_gapCount 43 = .ok (.aload_n 0, 1) := by decide +kernel
theorem dX8_gapCount_44 : decode cX8_gapCount 44 = .ok (.getfield 33, 3) := by decide +kernel
theorem dX8_gapCount_47 : decode cX8_gapCount 47 = .ok (.aload_n 0, 1) := by decide +kernel
theorem dX8_gapCount_48 : decode cX8_gapCount 48 = .ok (.getfield 12, 3) := by decide +kernel
theorem dX8_gapCount_51 : decode cX8_gapCount 51 = .ok (.aload_n 0, 1) := by decide +kernel
theorem dX8_gapCount_52 : decode cX8_gapCount 52 = .ok (.getfield 19, 3) := by decide +kernel
theorem dX8_gapCount_55 : decode cX8_gapCount 55 = .ok (.iload_n 3, 1) := by decide +kernel
theorem dX8_gapCount_56 : decode cX8_gapCount 56 = .ok (.iload 4, 2) := by decide +kernel
theorem dX8_gapCount_58 : decode cX8_gapCount 58 = .ok (.iload_n 1, 1) := by decide +kernel
theorem dX8_gapCount_59 : decode cX8_gapCount 59 = .ok (.invokevirtual 148, 3) := by decide +kernel
theorem dX8_gapCount_62 : decode cX8_gapCount 62 = .ok (.iload_n 1, 1) := by decide +kernel
theorem dX8_gapCount_63 : decode cX8_gapCount 63 = .ok (.if_icmp .ge 6, 3) := by decide +kernel
theorem dX8_gapCount_66 : decode cX8_gapCount 66 = .ok (.iinc 2 1, 3) := by decide +kernel
theorem dX8_gapCount_69 : decode cX8_gapCount 69 = .ok (.iinc 4 1, 3) := by decide +kernel
theorem dX8_gapCount_72 : decode cX8_gapCount 72 = .ok (.goto (-41), 3) := by decide +kernel
theorem dX8_gapCount_75 : decode cX8_gapCount 75 = .ok (.iinc 3 1, 3) := by decide +kernel
theorem dX8_gapCount_78 : decode cX8_gapCount 78 = .ok (.goto (-61), 3) := by decide +kernel
theorem dX8_gapCount_81 : decode cX8_gapCount 81 = .ok (.iload_n 2, 1) := by decide +kernel
theorem dX8_gapCount_82 : decode cX8_gapCount 82 = .ok (.ireturn, 1) := by decide +kernel
set_option maxRecDepth 20000 in
theorem ggX8_gapAt_X8_isWithin : GoodIn wsX8_gapAt wsX8_isWithin := goodIn_r _ [9] (by decide +kernel) (by decide +kernel)
set_option maxRecDepth 20000 in
theorem gX8_gapAt_X8_isWithin : GoodIn wsX8_gapAt (va_wsS RX8 58 yX8_isWithin wsX8_isWithin) := goodIn_app (goodIn_of _ (by decide +kernel)) ggX8_gapAt_X8_isWithin
set_option maxRecDepth 20000 in
theorem ggX8_gapAt_X6_views : GoodIn wsX8_gapAt wsX6_views := goodIn_r _ [14, 15, 16, 17, 18, 19, 13, 20, 21, 22, 23, 24, 25, 26, 27, 28, 29, 30, 31, 32, 33, 34, 8, 35, 36, 37, 38, 39, 40, 41, 42, 43, 44, 45, 46, 47, 48, 49, 50, 51, 52, 53, 54, 55, 56, 57, 58, 59, 60, 61, 62, 63, 64, 65, 66, 67, 68, 69, 80, 81, 82, 83, 84, 85, 86, 87, 88, 89, 77, 78, 79] (by decide +kernel) (by decide +kernel)
set_option maxRecDepth 20000 in
theorem gX8_gapAt_X6_views : GoodIn wsX8_gapAt (wsV RX8 148 RX6 yX6_views wsX6_views) := goodIn_app (goodIn_of _ (by decide +kernel)) ggX8_gapAt_X6_views
theorem dX8_gapAt_0 : decode cX8_gapAt 0 = .ok (.iload_n 1, 1) := by decide +kernel
theorem dX8_gapAt_1 : decode cX8_gapAt 1 = .ok (.iconst 1, 1) := by decide +kernel
theorem dX8_gapAt_2 : decode cX8_gapAt 2 = .ok (.bipush 9, 2) := by decide +kernel
theorem dX8_gapAt_4 : decode cX8_gapAt 4 = .ok (.invokestatic 58, 3) := by decide +kernel
theorem dX8_gapAt_7 : decode cX8_gapAt 7 = .ok (.ifCond .eq 7, 3) := by decide +kernel
theorem dX8_gapAt_10 : decode cX8_gapAt 10 = .ok (.iload_n 2, 1) := by decide +kernel
theorem dX8_gapAt_11 : decode cX8_gapAt 11 = .ok (.ifCond .ge 6, 3) := by decide +kernel
theorem dX8_gapAt_14 : decode cX8_gapAt 14 = .ok (.bipush (-4), 2) := by decide +kernel
theorem dX8_gapAt_16 : decode cX8_gapAt 16 = .ok (.ireturn, 1) := by decide +kernel
theorem dX8_gapAt_17 : decode cX8_gapAt 17 = .ok (.iconst 0, 1) := by decide +kernel
theorem dX8_gapAt_18 : decode cX8_gapAt 18 = .ok (.istore_n 3, 1) := by decide +kernel
theorem dX8_gapAt_19 : decode cX8_gapAt 19 = .ok (.iconst 0, 1) := by decide +kernel
theorem dX8_gapAt_20 : decode cX8_gapAt 20 = .ok (.istore 4, 2) := by decide +kernel
theorem dX8_gapAt_22 : decode cX8_gapAt 22 = .ok (.iload 4, 2) := by decide +kernel
theorem dX8_gapAt_24 : decode cX8_gapAt 24 = .ok (.aload_n 0, 1) := by decide +kernel
theorem dX8_gapAt_25 : decode cX8_gapAt 25 = .ok (.getfield 12, 3) := by decide +kernel
theorem dX8_gapAt_28 : decode cX8_gapAt 28 = .ok (.getfield 142, 3) := by decide +kernel
theorem dX8_gapAt_31 : decode cX8_gapAt 31 = .ok (.if_icmp .ge 71, 3) := by decide +kernel
theorem dX8_gapAt_34 : decode cX8_gapAt 34 = .ok (.iconst 0, 1) := by decide +kernel
theorem dX8_gapAt_35 : decode cX8_gapAt 35 = .ok (.istore 5, 2) := by decide +kernel
theorem dX8_gapAt_37 : decode cX8_gapAt 37 = .ok (.iload 5, 2) := by decide +kernel
theorem dX8_gapAt_39 : decode cX8_gapAt 39 = .ok (.aload_n 0, 1) := by decide +kernel
theorem dX8_gapAt_40 : decode cX8_gapAt 40 = .ok (.getfield 12, 3) := by decide +kernel
theorem dX8_gapAt_43 : decode cX8_gapAt 43 = .ok (.getfield 145, 3) := by decide +kernel
theorem dX8_gapAt_46 : decode cX8_gapAt 46 = .ok (.if_icmp .ge 50, 3) := by decide +kernel
theorem dX8_gapAt_49 : decode cX8_gapAt 49 = .ok (.aload_n 0, 1) := by decide +kernel
theorem dX8_gapAt_50 : decode cX8_gapAt 50 = .ok (.getfield 33, 3) := by decide +kernel
theorem dX8_gapAt_53 : decode cX8_gapAt 53 = .ok (.aload_n 0, 1) := by decide +kernel
theorem dX8_gapAt_54 : decode cX8_gapAt 54 = .ok (.getfield 12, 3) := by decide +kernel
theorem dX8_gapAt_57 : decode cX8_gapAt 57 = .ok (.aload_n 0, 1) := by decide +kernel
theorem dX8_gapAt_58 : decode cX8_gapAt 58 = .ok (.getfield 19, 3) := by decide +kernel
theorem dX8_gapAt_61 : decode cX8_gapAt 61 = .ok (.iload 4, 2) := by decide +kernel
theorem dX8_gapAt_63 : decode cX8_gapAt 63 = .ok (.iload 5, 2) := by decide +kernel
theorem dX8_gapAt_65 : decode cX8_gapAt 65 = .ok (.iload_n 1, 1) := by decide +kernel
theorem dX8_gapAt_66 : decode cX8_gapAt 66 = .ok (.invokevirtual 148, 3) := by decide +kernel
theorem dX8_gapAt_69 : decode cX8_gapAt 69 = .ok (.iload_n 1, 1) := by decide +kernel
theorem dX8_gapAt_70 : decode cX8_gapAt 70 = .ok (.if_icmp .ge 20, 3) := by decide +kernel
theorem dX8_gapAt_73 : decode cX8_gapAt 73 = .ok (.iload_n 3, 1) := by decide +kernel
theorem dX8_gapAt_74 : decode cX8_gapAt 74 = .ok (.iload_n 2, 1) := by decide +kernel
theorem dX8_gapAt_75 : decode cX8_gapAt 75 = .ok (.if_icmp .ne 12, 3) := by decide +kernel
theorem dX8_gapAt_78 : decode cX8_gapAt 78 = .ok (.bipush 100, 2) := by decide +kernel
theorem dX8_gapAt_80 : decode cX8_gapAt 80 = .ok (.iload 4, 2) := by decide +kernel
theorem dX8_gapAt_82 : decode cX8_gapAt 82 = .ok (.imul, 1) := by decide +kernel
theorem dX8_gapAt_83 : decode cX8_gapAt 83 = .ok (.iload 5, 2) := by decide +kernel
theorem dX8_gapAt_85 : decode cX8_gapAt 85 = .ok (.iadd, 1) := by decide +kernel
theorem dX8_gapAt_86 : decode cX8_gapAt 86 = .ok (.ireturn, 1) := by decide +kernel
theorem dX8_gapAt_87 : decode cX8_gapAt 87 = .ok (.iinc 3 1, 3) := by decide +kernel
theorem dX8_gapAt_90 : decode cX8_gapAt 90 = .ok (.iinc 5 1, 3) := by decide +kernel
theorem dX8_gapAt_93 : decode cX8_gapAt 93 = .ok (.goto (-56), 3) := by decide +kernel
theorem dX8_gapAt_96 : decode cX8_gapAt 96 = .ok (.iinc 4 1, 3) := by decide +kernel
theorem dX8_gapAt_99 : decode cX8_gapAt 99 = .ok (.goto (-77), 3) := by decide +kernel
theorem dX8_gapAt_102 : decode cX8_gapAt 102 = .ok (.bipush (-6), 2) := by decide +kernel
theorem dX8_gapAt_104 : decode cX8_gapAt 104 = .ok (.ireturn, 1) := by decide +kernel
set_option maxRecDepth 20000 in
theorem ggX8_forwardOverlap_X6_find : GoodIn wsX8_forwardOverlap wsX6_find := goodIn_r _ [12, 13, 14, 15, 16, 11, 17, 18, 101, 102] (by decide +kernel) (by decide +kernel)
set_option maxRecDepth 20000 in
theorem gX8_forwardOverlap_X6_find : GoodIn wsX8_forwardOverlap (wsV RX8 110 RX6 yX6_find wsX6_find) := goodIn_app (goodIn_of _ (by decide +kernel)) ggX8_forwardOverlap_X6_find
set_option maxRecDepth 20000 in
theorem ggX8_forwardOverlap_X5_hasPhoto : GoodIn wsX8_forwardOverlap wsX5_hasPhoto := goodIn_r _ [23, 24, 25, 26, 22, 27, 28, 29, 30, 31, 32, 33, 97, 98, 99, 100] (by decide +kernel) (by decide +kernel)
set_option maxRecDepth 20000 in
theorem gX8_forwardOverlap_X5_hasPhoto : GoodIn wsX8_forwardOverlap (wsV RX8 127 RX5 yX5_hasPhoto wsX5_hasPhoto) := goodIn_app (goodIn_of _ (by decide +kernel)) ggX8_forwardOverlap_X5_hasPhoto
set_option maxRecDepth 20000 in
theorem ggX8_forwardOverlap_X5_columnOf : GoodIn wsX8_forwardOverlap wsX5_columnOf := goodIn_r _ [37, 29, 30, 97, 98, 99, 100] (by decide +kernel) (by decide +kernel)
set_option maxRecDepth 20000 in
theorem gX8_forwardOverlap_X5_columnOf : GoodIn wsX8_forwardOverlap (wsV RX8 131 RX5 yX5_columnOf wsX5_columnOf) := goodIn_app (goodIn_of _ (by decide +kernel)) ggX8_forwardOverlap_X5_columnOf
set_option maxRecDepth 20000 in
theorem ggX8_forwardOverlap_X2_clear : GoodIn wsX8_forwardOverlap wsX2_clear := goodIn_r _ [42, 43, 44, 45, 103, 104, 105] (by decide +kernel) (by decide +kernel)
set_option maxRecDepth 20000 in
theorem gX8_forwardOverlap_X2_clear : GoodIn wsX8_forwardOverlap (wsV RX8 152 RX2 yX2_clear wsX2_clear) := goodIn_app (goodIn_of _ (by decide +kernel)) ggX8_forwardOverlap_X2_clear
set_option maxRecDepth 20000 in
theorem ggX8_forwardOverlap_X1_sees : GoodIn wsX8_forwardOverlap wsX1_sees := goodIn_r _ [50, 51, 52, 53, 54, 55, 56, 57, 58, 59, 60, 61, 62, 63, 64, 65, 66, 67, 49, 68, 69, 70, 71, 72, 73, 74, 75, 106, 107, 108, 109, 94, 95, 96] (by decide +kernel) (by decide +kernel)
set_option maxRecDepth 20000 in
theorem gX8_forwardOverlap_X1_sees : GoodIn wsX8_forwardOverlap (wsV RX8 138 RX1 yX1_sees wsX1_sees) := goodIn_app (goodIn_of _ (by decide +kernel)) ggX8_forwardOverlap_X1_sees
set_option maxRecDepth 20000 in
theorem ggX8_forwardOverlap_X2_countCell : GoodIn wsX8_forwardOverlap wsX2_countCell := goodIn_r _ [79, 43, 44, 45, 103, 104, 105] (by decide +kernel) (by decide +kernel)
set_option maxRecDepth 20000 in
theorem gX8_forwardOverlap_X2_countCell : GoodIn wsX8_forwardOverlap (wsV RX8 153 RX2 yX2_countCell wsX2_countCell) := goodIn_app (goodIn_of _ (by decide +kernel)) ggX8_forwardOverlap_X2_countCell
set_option maxRecDepth 20000 in
theorem ggX8_forwardOverlap_X2_percent : GoodIn wsX8_forwardOverlap wsX2_percent := goodIn_r _ [83, 45, 43, 44, 84, 85, 55, 86, 31, 32, 33, 103, 104, 105] (by decide +kernel) (by decide +kernel)
set_option maxRecDepth 20000 in
theorem gX8_forwardOverlap_X2_percent : GoodIn wsX8_forwardOverlap (wsV RX8 157 RX2 yX2_percent wsX2_percent) := goodIn_app (goodIn_of _ (by decide +kernel)) ggX8_forwardOverlap_X2_percent
theorem dX8_forwardOverlap_0 : decode cX8_forwardOverlap 0 = .ok (.aload_n 0, 1) := by decide +kernel
theorem dX8_forwardOverlap_1 : decode cX8_forwardOverlap 1 = .ok (.getfield 33, 3) := by decide +kernel
theorem dX8_forwardOverlap_4 : decode cX8_forwardOverlap 4 = .ok (.iload_n 1, 1) := by decide +kernel
theorem dX8_forwardOverlap_5 : decode cX8_forwardOverlap 5 = .ok (.invokevirtual 110, 3) := by decide +kernel
theorem dX8_forwardOverlap_8 : decode cX8_forwardOverlap 8 = .ok (.astore_n 3, 1) := by decide +kernel
theorem dX8_forwardOverlap_9 : decode cX8_forwardOverlap 9 = .ok (.aload_n 3, 1) := by decide +kernel
theorem dX8_forwardOverlap_10 : decode cX8_forwardOverlap 10 = .ok (.ifnonnull 6, 3) := by decide +kernel
theorem dX8_forwardOverlap_13 : decode cX8_forwardOverlap 13 = .ok (.bipush (-2), 2) := by decide +kernel
theorem dX8_forwardOverlap_15 : decode cX8_forwardOverlap 15 = .ok (.ireturn, 1) := by decide +kernel
theorem dX8_forwardOverlap_16 : decode cX8_forwardOverlap 16 = .ok (.aload_n 3, 1) := by decide +kernel
theorem dX8_forwardOverlap_17 : decode cX8_forwardOverlap 17 = .ok (.iload_n 2, 1) := by decide +kernel
theorem dX8_forwardOverlap_18 : decode cX8_forwardOverlap 18 = .ok (.invokevirtual 127, 3) := by decide +kernel
theorem dX8_forwardOverlap_21 : decode cX8_forwardOverlap 21 = .ok (.ifCond .eq 13, 3) := by decide +kernel
theorem dX8_forwardOverlap_24 : decode cX8_forwardOverlap 24 = .ok (.aload_n 3, 1) := by decide +kernel
theorem dX8_forwardOverlap_25 : decode cX8_forwardOverlap 25 = .ok (.iload_n 2, 1) := by decide +kernel
theorem dX8_forwardOverlap_26 : decode cX8_forwardOverlap 26 = .ok (.iconst 1, 1) := by decide +kernel
theorem dX8_forwardOverlap_27 : decode cX8_forwardOverlap 27 = .ok (.iadd, 1) := by decide +kernel
theorem dX8_forwardOverlap_28 : decode cX8_forwardOverlap 28 = .ok (.invokevirtual 127, 3) := by decide +kernel
theorem dX8_forwardOverlap_31 : decode cX8_forwardOverlap 31 = .ok (.ifCond .ne 6, 3) := by decide +kernel
theorem dX8_forwardOverlap_34 : decode cX8_forwardOverlap 34 = .ok (.bipush (-3), 2) := by decide +kernel
theorem dX8_forwardOverlap_36 : decode cX8_forwardOverlap 36 = .ok (.ireturn, 1) := by decide +kernel
theorem dX8_forwardOverlap_37 : decode cX8_forwardOverlap 37 = .ok (.aload_n 3, 1) := by decide +kernel
theorem dX8_forwardOverlap_38 : decode cX8_forwardOverlap 38 = .ok (.iload_n 2, 1) := by decide +kernel
theorem dX8_forwardOverlap_39 : decode cX8_forwardOverlap 39 = .ok (.invokevirtual 131, 3) := by decide +kernel
theorem dX8_forwardOverlap_42 : decode cX8_forwardOverlap 42 = .ok (.istore 4, 2) := by decide +kernel
theorem dX8_forwardOverlap_44 : decode cX8_forwardOverlap 44 = .ok (.aload_n 3, 1) := by decide +kernel
theorem dX8_forwardOverlap_45 : decode cX8_forwardOverlap 45 = .ok (.iload_n 2, 1) := by decide +kernel
theorem dX8_forwardOverlap_46 : decode cX8_forwardOverlap 46 = .ok (.iconst 1, 1) := by decide +kernel
theorem dX8_forwardOverlap_47 : decode cX8_forwardOverlap 47 = .ok (.iadd, 1) := by decide +kernel
theorem dX8_forwardOverlap_48 : decode cX8_forwardOverlap 48 = .ok (.invokevirtual 131, 3) := by decide +kernel
theorem dX8_forwardOverlap_51 : decode cX8_forwardOverlap 51 = .ok (.istore 5, 2) := by decide +kernel
theorem dX8_forwardOverlap_53 : decode cX8_forwardOverlap 53 = .ok (.aload_n 0, 1) := by decide +kernel
theorem dX8_forwardOverlap_54 : decode cX8_forwardOverlap 54 = .ok (.getfield 40, 3) := by decide +kernel
theorem dX8_forwardOverlap_57 : decode cX8_forwardOverlap 57 = .ok (.invokevirtual 152, 3) := by decide +kernel
theorem dX8_forwardOverlap_60 : decode cX8_forwardOverlap 60 = .ok (.iconst 0, 1) := by decide +kernel
theorem dX8_forwardOverlap_61 : decode cX8_forwardOverlap 61 = .ok (.istore 6, 2) := by decide +kernel
theorem dX8_forwardOverlap_63 : decode cX8_forwardOverlap 63 = .ok (.iload 6, 2) := by decide +kernel
theorem dX8_forwardOverlap_65 : decode cX8_forwardOverlap 65 = .ok (.aload_n 0, 1) := by decide +kernel
theorem dX8_forwardOverlap_66 : decode cX8_forwardOverlap 66 = .ok (.getfield 12, 3) := by decide +kernel
theorem dX8_forwardOverlap_69 : decode cX8_forwardOverlap 69 = .ok (.getfield 142, 3) := by decide +kernel
theorem dX8_forwardOverlap_72 : decode cX8_forwardOverlap 72 = .ok (.if_icmp .ge 79, 3) := by decide +kernel
theorem dX8_forwardOverlap_75 : decode cX8_forwardOverlap 75 = .ok (.iconst 0, 1) := by decide +kernel
theorem dX8_forwardOverlap_76 : decode cX8_forwardOverlap 76 = .ok (.istore 7, 2) := by decide +kernel
theorem dX8_forwardOverlap_78 : decode cX8_forwardOverlap 78 = .ok (.iload 7, 2) := by decide +kernel
theorem dX8_forwardOverlap_80 : decode cX8_forwardOverlap 80 = .ok (.aload_n 0, 1) := by decide +kernel
theorem dX8_forwardOverlap_81 : decode cX8_forwardOverlap 81 = .ok (.getfield 12, 3) := by decide +kernel
theorem dX8_forwardOverlap_84 : decode cX8_forwardOverlap 84 = .ok (.getfield 145, 3) := by decide +kernel
theorem dX8_forwardOverlap_87 : decode cX8_forwardOverlap 87 = .ok (.if_icmp .ge 58, 3) := by decide +kernel
theorem dX8_forwardOverlap_90 : decode cX8_forwardOverlap 90 = .ok (.aload_n 0, 1) := by decide +kernel
theorem dX8_forwardOverlap_91 : decode cX8_forwardOverlap 91 = .ok (.getfield 40, 3) := by decide +kernel
theorem dX8_forwardOverlap_94 : decode cX8_forwardOverlap 94 = .ok (.aload_n 0, 1) := by decide +kernel
theorem dX8_forwardOverlap_95 : decode cX8_forwardOverlap 95 = .ok (.getfield 19, 3) := by decide +kernel
theorem dX8_forwardOverlap_98 : decode cX8_forwardOverlap 98 = .ok (.aload_n 0, 1) := by decide +kernel
theorem dX8_forwardOverlap_99 : decode cX8_forwardOverlap 99 = .ok (.getfield 12, 3) := by decide +kernel
theorem dX8_forwardOverlap_102 : decode cX8_forwardOverlap 102 = .ok (.aload_n 3, 1) := by decide +kernel
theorem dX8_forwardOverlap_103 : decode cX8_forwardOverlap 103 = .ok (.getfield 135, 3) := by decide +kernel
theorem dX8_forwardOverlap_106 : decode cX8_forwardOverlap 106 = .ok (.iload 4, 2) := by decide +kernel
theorem dX8_forwardOverlap_108 : decode cX8_forwardOverlap 108 = .ok (.iload 6, 2) := by decide +kernel
theorem dX8_forwardOverlap_110 : decode cX8_forwardOverlap 110 = .ok (.iload 7, 2) := by decide +kernel
theorem dX8_forwardOverlap_112 : decode cX8_forwardOverlap 112 = .ok (.invokevirtual 138, 3) := by decide +kernel
theorem dX8_forwardOverlap_115 : decode cX8_forwardOverlap 115 = .ok (.aload_n 0, 1) := by decide +kernel
theorem dX8_forwardOverlap_116 : decode cX8_forwardOverlap 116 = .ok (.getfield 19, 3) := by decide +kernel
theorem dX8_forwardOverlap_119 : decode cX8_forwardOverlap 119 = .ok (.aload_n 0, 1) := by decide +kernel
theorem dX8_forwardOverlap_120 : decode cX8_forwardOverlap 120 = .ok (.getfield 12, 3) := by decide +kernel
theorem dX8_forwardOverlap_123 : decode cX8_forwardOverlap 123 = .ok (.aload_n 3, 1) := by decide +kernel
theorem dX8_forwardOverlap_124 : decode cX8_forwardOverlap 124 = .ok (.getfield 135, 3) := by decide +kernel
theorem dX8_forwardOverlap_127 : decode cX8_forwardOverlap 127 = .ok (.iload 5, 2) := by decide +kernel
theorem dX8_forwardOverlap_129 : decode cX8_forwardOverlap 129 = .ok (.iload 6, 2) := by decide +kernel
theorem dX8_forwardOverlap_131 : decode cX8_forwardOverlap 131 = .ok (.iload 7, 2) := by decide +kernel
theorem dX8_forwardOverlap_133 : decode cX8_forwardOverlap 133 = .ok (.invokevirtual 138, 3) := by decide +kernel
theorem dX8_forwardOverlap_136 : decode cX8_forwardOverlap 136 = .ok (.invokevirtual 153, 3) := by decide +kernel
theorem dX8_forwardOverlap_139 : decode cX8_forwardOverlap 139 = .ok (.iinc 7 1, 3) := by decide +kernel
theorem dX8_forwardOverlap_142 : decode cX8_forwardOverlap 142 = .ok (.goto (-64), 3) := by decide +kernel
theorem dX8_forwardOverlap_145 : decode cX8_forwardOverlap 145 = .ok (.iinc 6 1, 3) := by decide +kernel
theorem dX8_forwardOverlap_148 : decode cX8_forwardOverlap 148 = .ok (.goto (-85), 3) := by decide +kernel
theorem dX8_forwardOverlap_151 : decode cX8_forwardOverlap 151 = .ok (.aload_n 0, 1) := by decide +kernel
theorem dX8_forwardOverlap_152 : decode cX8_forwardOverlap 152 = .ok (.getfield 40, 3) := by decide +kernel
theorem dX8_forwardOverlap_155 : decode cX8_forwardOverlap 155 = .ok (.invokevirtual 157, 3) := by decide +kernel
theorem dX8_forwardOverlap_158 : decode cX8_forwardOverlap 158 = .ok (.ireturn, 1) := by decide +kernel
set_option maxRecDepth 20000 in
theorem ggX8_sideOverlap_X6_find : GoodIn wsX8_sideOverlap wsX6_find := goodIn_r _ [11, 12, 13, 14, 15, 10, 16, 17, 97, 98] (by decide +kernel) (by decide +kernel)
set_option maxRecDepth 20000 in
theorem gX8_sideOverlap_X6_find : GoodIn wsX8_sideOverlap (wsV RX8 110 RX6 yX6_find wsX6_find) := goodIn_app (goodIn_of _ (by decide +kernel)) ggX8_sideOverlap_X6_find
set_option maxRecDepth 20000 in
theorem ggX8_sideOverlap_X2_clear : GoodIn wsX8_sideOverlap wsX2_clear := goodIn_r _ [22, 23, 24, 25, 99, 100, 101] (by decide +kernel) (by decide +kernel)
set_option maxRecDepth 20000 in
theorem gX8_sideOverlap_X2_clear : GoodIn wsX8_sideOverlap (wsV RX8 152 RX2 yX2_clear wsX2_clear) := goodIn_app (goodIn_of _ (by decide +kernel)) ggX8_sideOverlap_X2_clear
set_option maxRecDepth 20000 in
theorem ggX8_sideOverlap_X5_sees : GoodIn wsX8_sideOverlap wsX5_sees := goodIn_r _ [30, 31, 32, 33, 34, 29, 35, 36, 37, 38, 39, 40, 41, 42, 43, 44, 45, 46, 47, 48, 49, 50, 51, 52, 53, 54, 55, 56, 57, 58, 59, 60, 61, 62, 63, 64, 65, 66, 67, 68, 69, 70, 71, 72, 73, 74, 75, 102, 103, 104, 105, 106, 107, 108, 109, 94, 95, 96] (by decide +kernel) (by decide +kernel)
set_option maxRecDepth 20000 in
theorem gX8_sideOverlap_X5_sees : GoodIn wsX8_sideOverlap (wsV RX8 160 RX5 yX5_sees wsX5_sees) := goodIn_app (goodIn_of _ (by decide +kernel)) ggX8_sideOverlap_X5_sees
set_option maxRecDepth 20000 in
theorem ggX8_sideOverlap_X2_countCell : GoodIn wsX8_sideOverlap wsX2_countCell := goodIn_r _ [79, 23, 24, 25, 99, 100, 101] (by decide +kernel) (by decide +kernel)
set_option maxRecDepth 20000 in
theorem gX8_sideOverlap_X2_countCell : GoodIn wsX8_sideOverlap (wsV RX8 153 RX2 yX2_countCell wsX2_countCell) := goodIn_app (goodIn_of _ (by decide +kernel)) ggX8_sideOverlap_X2_countCell
set_option maxRecDepth 20000 in
theorem ggX8_sideOverlap_X2_percent : GoodIn wsX8_sideOverlap wsX2_percent := goodIn_r _ [83, 25, 23, 24, 84, 85, 55, 86, 39, 40, 41, 99, 100, 101] (by decide +kernel) (by decide +kernel)
set_option maxRecDepth 20000 in
theorem gX8_sideOverlap_X2_percent : GoodIn wsX8_sideOverlap (wsV RX8 157 RX2 yX2_percent wsX2_percent) := goodIn_app (goodIn_of _ (by decide +kernel)) ggX8_sideOverlap_X2_percent
theorem dX8_sideOverlap_0 : decode cX8_sideOverlap 0 = .ok (.aload_n 0, 1) := by decide +kernel
theorem dX8_sideOverlap_1 : decode cX8_sideOverlap 1 = .ok (.getfield 33, 3) := by decide +kernel
theorem dX8_sideOverlap_4 : decode cX8_sideOverlap 4 = .ok (.iload_n 1, 1) := by decide +kernel
theorem dX8_sideOverlap_5 : decode cX8_sideOverlap 5 = .ok (.invokevirtual 110, 3) := by decide +kernel
theorem dX8_sideOverlap_8 : decode cX8_sideOverlap 8 = .ok (.astore_n 3, 1) := by decide +kernel
theorem dX8_sideOverlap_9 : decode cX8_sideOverlap 9 = .ok (.aload_n 0, 1) := by decide +kernel
theorem dX8_sideOverlap_10 : decode cX8_sideOverlap 10 = .ok (.getfield 33, 3) := by decide +kernel
theorem dX8_sideOverlap_13 : decode cX8_sideOverlap 13 = .ok (.iload_n 2, 1) := by decide +kernel
theorem dX8_sideOverlap_14 : decode cX8_sideOverlap 14 = .ok (.invokevirtual 110, 3) := by decide +kernel
theorem dX8_sideOverlap_17 : decode cX8_sideOverlap 17 = .ok (.astore 4, 2) := by decide +kernel
theorem dX8_sideOverlap_19 : decode cX8_sideOverlap 19 = .ok (.aload_n 3, 1) := by decide +kernel
theorem dX8_sideOverlap_20 : decode cX8_sideOverlap 20 = .ok (.ifnull 8, 3) := by decide +kernel
theorem dX8_sideOverlap_23 : decode cX8_sideOverlap 23 = .ok (.aload 4, 2) := by decide +kernel
theorem dX8_sideOverlap_25 : decode cX8_sideOverlap 25 = .ok (.ifnonnull 6, 3) := by decide +kernel
theorem dX8_sideOverlap_28 : decode cX8_sideOverlap 28 = .ok (.bipush (-2), 2) := by decide +kernel
theorem dX8_sideOverlap_30 : decode cX8_sideOverlap 30 = .ok (.ireturn, 1) := by decide +kernel
theorem dX8_sideOverlap_31 : decode cX8_sideOverlap 31 = .ok (.aload_n 0, 1) := by decide +kernel
theorem dX8_sideOverlap_32 : decode cX8_sideOverlap 32 = .ok (.getfield 40, 3) := by decide +kernel
theorem dX8_sideOverlap_35 : decode cX8_sideOverlap 35 = .ok (.invokevirtual 152, 3) := by decide +kernel
theorem dX8_sideOverlap_38 : decode cX8_sideOverlap 38 = .ok (.iconst 0, 1) := by decide +kernel
theorem dX8_sideOverlap_39 : decode cX8_sideOverlap 39 = .ok (.istore 5, 2) := by decide +kernel
theorem dX8_sideOverlap_41 : decode cX8_sideOverlap 41 = .ok (.iload 5, 2) := by decide +kernel
theorem dX8_sideOverlap_43 : decode cX8_sideOverlap 43 = .ok (.aload_n 0, 1) := by decide +kernel
theorem dX8_sideOverlap_44 : decode cX8_sideOverlap 44 = .ok (.getfield 12, 3) := by decide +kernel
theorem dX8_sideOverlap_47 : decode cX8_sideOverlap 47 = .ok (.getfield 142, 3) := by decide +kernel
theorem dX8_sideOverlap_50 : decode cX8_sideOverlap 50 = .ok (.if_icmp .ge 70, 3) := by decide +kernel
theorem dX8_sideOverlap_53 : decode cX8_sideOverlap 53 = .ok (.iconst 0, 1) := by decide +kernel
theorem dX8_sideOverlap_54 : decode cX8_sideOverlap 54 = .ok (.istore 6, 2) := by decide +kernel
theorem dX8_sideOverlap_56 : decode cX8_sideOverlap 56 = .ok (.iload 6, 2) := by decide +kernel
theorem dX8_sideOverlap_58 : decode cX8_sideOverlap 58 = .ok (.aload_n 0, 1) := by decide +kernel
theorem dX8_sideOverlap_59 : decode cX8_sideOverlap 59 = .ok (.getfield 12, 3) := by decide +kernel
theorem dX8_sideOverlap_62 : decode cX8_sideOverlap 62 = .ok (.getfield 145, 3) := by decide +kernel
theorem dX8_sideOverlap_65 : decode cX8_sideOverlap 65 = .ok (.if_icmp .ge 49, 3) := by decide +kernel
theorem dX8_sideOverlap_68 : decode cX8_sideOverlap 68 = .ok (.aload_n 0, 1) := by decide +kernel
theorem dX8_sideOverlap_69 : decode cX8_sideOverlap 69 = .ok (.getfield 40, 3) := by decide +kernel
theorem dX8_sideOverlap_72 : decode cX8_sideOverlap 72 = .ok (.aload_n 3, 1) := by decide +kernel
theorem dX8_sideOverlap_73 : decode cX8_sideOverlap 73 = .ok (.aload_n 0, 1) := by decide +kernel
theorem dX8_sideOverlap_74 : decode cX8_sideOverlap 74 = .ok (.getfield 12, 3) := by decide +kernel
theorem dX8_sideOverlap_77 : decode cX8_sideOverlap 77 = .ok (.aload_n 0, 1) := by decide +kernel
theorem dX8_sideOverlap_78 : decode cX8_sideOverlap 78 = .ok (.getfield 19, 3) := by decide +kernel
theorem dX8_sideOverlap_81 : decode cX8_sideOverlap 81 = .ok (.iload 5, 2) := by decide +kernel
theorem dX8_sideOverlap_83 : decode cX8_sideOverlap 83 = .ok (.iload 6, 2) := by decide +kernel
theorem dX8_sideOverlap_85 : decode cX8_sideOverlap 85 = .ok (.invokevirtual 160, 3) := by decide +kernel
theorem dX8_sideOverlap_88 : decode cX8_sideOverlap 88 = .ok (.aload 4, 2) := by decide +kernel
theorem dX8_sideOverlap_90 : decode cX8_sideOverlap 90 = .ok (.aload_n 0, 1) := by decide +kernel
theorem dX8_sideOverlap_91 : decode cX8_sideOverlap 91 = .ok (.getfield 12, 3) := by decide +kernel
theorem dX8_sideOverlap_94 : decode cX8_sideOverlap 94 = .ok (.aload_n 0, 1) := by decide +kernel
theorem dX8_sideOverlap_95 : decode cX8_sideOverlap 95 = .ok (.getfield 19, 3) := by decide +kernel
theorem dX8_sideOverlap_98 : decode cX8_sideOverlap 98 = .ok (.iload 5, 2) := by decide +kernel
theorem dX8_sideOverlap_100 : decode cX8_sideOverlap 100 = .ok (.iload 6, 2) := by decide +kernel
theorem dX8_sideOverlap_102 : decode cX8_sideOverlap 102 = .ok (.invokevirtual 160, 3) := by decide +kernel
theorem dX8_sideOverlap_105 : decode cX8_sideOverlap 105 = .ok (.invokevirtual 153, 3) := by decide +kernel
theorem dX8_sideOverlap_108 : decode cX8_sideOverlap 108 = .ok (.iinc 6 1, 3) := by decide +kernel
theorem dX8_sideOverlap_111 : decode cX8_sideOverlap 111 = .ok (.goto (-55), 3) := by decide +kernel
theorem dX8_sideOverlap_114 : decode cX8_sideOverlap 114 = .ok (.iinc 5 1, 3) := by decide +kernel
theorem dX8_sideOverlap_117 : decode cX8_sideOverlap 117 = .ok (.goto (-76), 3) := by decide +kernel
theorem dX8_sideOverlap_120 : decode cX8_sideOverlap 120 = .ok (.aload_n 0, 1) := by decide +kernel
theorem dX8_sideOverlap_121 : decode cX8_sideOverlap 121 = .ok (.getfield 40, 3) := by decide +kernel
theorem dX8_sideOverlap_124 : decode cX8_sideOverlap 124 = .ok (.invokevirtual 157, 3) := by decide +kernel
theorem dX8_sideOverlap_127 : decode cX8_sideOverlap 127 = .ok (.ireturn, 1) := by decide +kernel
set_option maxRecDepth 20000 in
theorem ggX8_planPhotos_X8_isWithin : GoodIn wsX8_planPhotos wsX8_isWithin := goodIn_r _ [8] (by decide +kernel) (by decide +kernel)
set_option maxRecDepth 20000 in
theorem gX8_planPhotos_X8_isWithin : GoodIn wsX8_planPhotos (va_wsS RX8 58 yX8_isWithin wsX8_isWithin) := goodIn_app (goodIn_of _ (by decide +kernel)) ggX8_planPhotos_X8_isWithin
set_option maxRecDepth 20000 in
theorem ggX8_planPhotos_X3_search : GoodIn wsX8_planPhotos wsX3_search := goodIn_r _ [13, 14, 15, 16, 17, 18, 19, 20, 21, 22, 23, 24, 25, 26, 27, 28, 7, 29, 30, 31, 32, 33, 34, 35, 36, 37, 38, 39, 40, 41, 42, 43, 44, 45, 46, 47, 48, 49, 50, 51, 52, 53, 54, 55, 56, 57, 58, 59, 60, 61, 62, 63, 64, 65, 66, 67, 68, 69, 70, 71, 72, 73, 74, 75, 76, 77, 78, 79, 80, 81, 82, 83, 84, 85, 86, 87, 88, 89, 90, 91, 92, 93, 94, 95, 96, 97, 98, 99, 100, 101, 102, 103, 104, 105, 106, 118, 119, 120, 114, 115, 116, 117, 121, 122, 123, 124, 125, 126, 127, 128, 129, 130] (by decide +kernel) (by decide +kernel)
set_option maxRecDepth 20000 in
theorem gX8_planPhotos_X3_search : GoodIn wsX8_planPhotos (wsV RX8 163 RX3 yX3_search wsX3_search) := goodIn_app (goodIn_of _ (by decide +kernel)) ggX8_planPhotos_X3_search
theorem dX8_planPhotos_0 : decode cX8_planPhotos 0 = .ok (.iload_n 1, 1) := by decide +kernel
theorem dX8_planPhotos_1 : decode cX8_planPhotos 1 = .ok (.iconst 1, 1) := by decide +kernel
theorem dX8_planPhotos_2 : decode cX8_planPhotos 2 = .ok (.bipush 9, 2) := by decide +kernel
theorem dX8_planPhotos_4 : decode cX8_planPhotos 4 = .ok (.invokestatic 58, 3) := by decide +kernel
theorem dX8_planPhotos_7 : decode cX8_planPhotos 7 = .ok (.ifCond .ne 6, 3) := by decide +kernel
theorem dX8_planPhotos_10 : decode cX8_planPhotos 10 = .ok (.bipush (-4), 2) := by decide +kernel
theorem dX8_planPhotos_12 : decode cX8_planPhotos 12 = .ok (.ireturn, 1) := by decide +kernel
theorem dX8_planPhotos_13 : decode cX8_planPhotos 13 = .ok (.aload_n 0, 1) := by decide +kernel
theorem dX8_planPhotos_14 : decode cX8_planPhotos 14 = .ok (.getfield 47, 3) := by decide +kernel
theorem dX8_planPhotos_17 : decode cX8_planPhotos 17 = .ok (.aload_n 0, 1) := by decide +kernel
theorem dX8_planPhotos_18 : decode cX8_planPhotos 18 = .ok (.getfield 12, 3) := by decide +kernel
theorem dX8_planPhotos_21 : decode cX8_planPhotos 21 = .ok (.aload_n 0, 1) := by decide +kernel
theorem dX8_planPhotos_22 : decode cX8_planPhotos 22 = .ok (.getfield 19, 3) := by decide +kernel
theorem dX8_planPhotos_25 : decode cX8_planPhotos 25 = .ok (.iload_n 1, 1) := by decide +kernel
theorem dX8_planPhotos_26 : decode cX8_planPhotos 26 = .ok (.invokevirtual 163, 3) := by decide +kernel
theorem dX8_planPhotos_29 : decode cX8_planPhotos 29 = .ok (.ifCond .eq 13, 3) := by decide +kernel
theorem dX8_planPhotos_32 : decode cX8_planPhotos 32 = .ok (.aload_n 0, 1) := by decide +kernel
theorem dX8_planPhotos_33 : decode cX8_planPhotos 33 = .ok (.getfield 47, 3) := by decide +kernel
theorem dX8_planPhotos_36 : decode cX8_planPhotos 36 = .ok (.getfield 167, 3) := by decide +kernel
theorem dX8_planPhotos_39 : decode cX8_planPhotos 39 = .ok (.goto 5, 3) := by decide +kernel
theorem dX8_planPhotos_42 : decode cX8_planPhotos 42 = .ok (.bipush (-6), 2) := by decide +kernel
theorem dX8_planPhotos_44 : decode cX8_planPhotos 44 = .ok (.ireturn, 1) := by decide +kernel
set_option maxRecDepth 20000 in
theorem ggX8_planRowSpacing_X8_isWithin : GoodIn wsX8_planRowSpacing wsX8_isWithin := goodIn_r _ [8] (by decide +kernel) (by decide +kernel)
set_option maxRecDepth 20000 in
theorem gX8_planRowSpacing_X8_isWithin : GoodIn wsX8_planRowSpacing (va_wsS RX8 58 yX8_isWithin wsX8_isWithin) := goodIn_app (goodIn_of _ (by decide +kernel)) ggX8_planRowSpacing_X8_isWithin
set_option maxRecDepth 20000 in
theorem ggX8_planRowSpacing_X3_search : GoodIn wsX8_planRowSpacing wsX3_search := goodIn_r _ [13, 14, 15, 16, 17, 18, 19, 20, 21, 22, 23, 24, 25, 26, 27, 28, 7, 29, 30, 31, 32, 33, 34, 35, 36, 37, 38, 39, 40, 41, 42, 43, 44, 45, 46, 47, 48, 49, 50, 51, 52, 53, 54, 55, 56, 57, 58, 59, 60, 61, 62, 63, 64, 65, 66, 67, 68, 69, 70, 71, 72, 73, 74, 75, 76, 77, 78, 79, 80, 81, 82, 83, 84, 85, 86, 87, 88, 89, 90, 91, 92, 93, 94, 95, 96, 97, 98, 99, 100, 101, 102, 103, 104, 105, 106, 118, 119, 120, 114, 115, 116, 117, 121, 122, 123, 124, 125, 126, 127, 128, 129, 130] (by decide +kernel) (by decide +kernel)
set_option maxRecDepth 20000 in
theorem gX8_planRowSpacing_X3_search : GoodIn wsX8_planRowSpacing (wsV RX8 163 RX3 yX3_search wsX3_search) := goodIn_app (goodIn_of _ (by decide +kernel)) ggX8_planRowSpacing_X3_search
theorem dX8_planRowSpacing_0 : decode cX8_planRowSpacing 0 = .ok (.iload_n 1, 1) := by decide +kernel
theorem dX8_planRowSpacing_1 : decode cX8_planRowSpacing 1 = .ok (.iconst 1, 1) := by decide +kernel
theorem dX8_planRowSpacing_2 : decode cX8_planRowSpacing 2 = .ok (.bipush 9, 2) := by decide +kernel
theorem dX8_planRowSpacing_4 : decode cX8_planRowSpacing 4 = .ok (.invokestatic 58, 3) := by decide +kernel
theorem dX8_planRowSpacing_7 : decode cX8_planRowSpacing 7 = .ok (.ifCond .ne 6, 3) := by decide +kernel
theorem dX8_planRowSpacing_10 : decode cX8_planRowSpacing 10 = .ok (.bipush (-4), 2) := by decide +kernel
theorem dX8_planRowSpacing_12 : decode cX8_planRowSpacing 12 = .ok (.ireturn, 1) := by decide +kernel
theorem dX8_planRowSpacing_13 : decode cX8_planRowSpacing 13 = .ok (.aload_n 0, 1) := by decide +kernel
theorem dX8_planRowSpacing_14 : decode cX8_planRowSpacing 14 = .ok (.getfield 47, 3) := by decide +kernel
theorem dX8_planRowSpacing_17 : decode cX8_planRowSpacing 17 = .ok (.aload_n 0, 1) := by decide +kernel
theorem dX8_planRowSpacing_18 : decode cX8_planRowSpacing 18 = .ok (.getfield 12, 3) := by decide +kernel
theorem dX8_planRowSpacing_21 : decode cX8_planRowSpacing 21 = .ok (.aload_n 0, 1) := by decide +kernel
theorem dX8_planRowSpacing_22 : decode cX8_planRowSpacing 22 = .ok (.getfield 19, 3) := by decide +kernel
theorem dX8_planRowSpacing_25 : decode cX8_planRowSpacing 25 = .ok (.iload_n 1, 1) := by decide +kernel
theorem dX8_planRowSpacing_26 : decode cX8_planRowSpacing 26 = .ok (.invokevirtual 163, 3) := by decide +kernel
theorem dX8_planRowSpacing_29 : decode cX8_planRowSpacing 29 = .ok (.ifCond .eq 13, 3) := by decide +kernel
theorem dX8_planRowSpacing_32 : decode cX8_planRowSpacing 32 = .ok (.aload_n 0, 1) := by decide +kernel
theorem dX8_planRowSpacing_33 : decode cX8_planRowSpacing 33 = .ok (.getfield 47, 3) := by decide +kernel
theorem dX8_planRowSpacing_36 : decode cX8_planRowSpacing 36 = .ok (.getfield 169, 3) := by decide +kernel
theorem dX8_planRowSpacing_39 : decode cX8_planRowSpacing 39 = .ok (.goto 5, 3) := by decide +kernel
theorem dX8_planRowSpacing_42 : decode cX8_planRowSpacing 42 = .ok (.bipush (-6), 2) := by decide +kernel
theorem dX8_planRowSpacing_44 : decode cX8_planRowSpacing 44 = .ok (.ireturn, 1) := by decide +kernel
set_option maxRecDepth 20000 in
theorem ggX8_planPhotoSpacing_X8_isWithin : GoodIn wsX8_planPhotoSpacing wsX8_isWithin := goodIn_r _ [8] (by decide +kernel) (by decide +kernel)
set_option maxRecDepth 20000 in
theorem gX8_planPhotoSpacing_X8_isWithin : GoodIn wsX8_planPhotoSpacing (va_wsS RX8 58 yX8_isWithin wsX8_isWithin) := goodIn_app (goodIn_of _ (by decide +kernel)) ggX8_planPhotoSpacing_X8_isWithin
set_option maxRecDepth 20000 in
theorem ggX8_planPhotoSpacing_X3_search : GoodIn wsX8_planPhotoSpacing wsX3_search := goodIn_r _ [13, 14, 15, 16, 17, 18, 19, 20, 21, 22, 23, 24, 25, 26, 27, 28, 7, 29, 30, 31, 32, 33, 34, 35, 36, 37, 38, 39, 40, 41, 42, 43, 44, 45, 46, 47, 48, 49, 50, 51, 52, 53, 54, 55, 56, 57, 58, 59, 60, 61, 62, 63, 64, 65, 66, 67, 68, 69, 70, 71, 72, 73, 74, 75, 76, 77, 78, 79, 80, 81, 82, 83, 84, 85, 86, 87, 88, 89, 90, 91, 92, 93, 94, 95, 96, 97, 98, 99, 100, 101, 102, 103, 104, 105, 106, 118, 119, 120, 114, 115, 116, 117, 121, 122, 123, 124, 125, 126, 127, 128, 129, 130] (by decide +kernel) (by decide +kernel)
set_option maxRecDepth 20000 in
theorem gX8_planPhotoSpacing_X3_search : GoodIn wsX8_planPhotoSpacing (wsV RX8 163 RX3 yX3_search wsX3_search) := goodIn_app (goodIn_of _ (by decide +kernel)) ggX8_planPhotoSpacing_X3_search
theorem dX8_planPhotoSpacing_0 : decode cX8_planPhotoSpacing 0 = .ok (.iload_n 1, 1) := by decide +kernel
theorem dX8_planPhotoSpacing_1 : decode cX8_planPhotoSpacing 1 = .ok (.iconst 1, 1) := by decide +kernel
theorem dX8_planPhotoSpacing_2 : decode cX8_planPhotoSpacing 2 = .ok (.bipush 9, 2) := by decide +kernel
theorem dX8_planPhotoSpacing_4 : decode cX8_planPhotoSpacing 4 = .ok (.invokestatic 58, 3) := by decide +kernel
theorem dX8_planPhotoSpacing_7 : decode cX8_planPhotoSpacing 7 = .ok (.ifCond .ne 6, 3) := by decide +kernel
theorem dX8_planPhotoSpacing_10 : decode cX8_planPhotoSpacing 10 = .ok (.bipush (-4), 2) := by decide +kernel
theorem dX8_planPhotoSpacing_12 : decode cX8_planPhotoSpacing 12 = .ok (.ireturn, 1) := by decide +kernel
theorem dX8_planPhotoSpacing_13 : decode cX8_planPhotoSpacing 13 = .ok (.aload_n 0, 1) := by decide +kernel
theorem dX8_planPhotoSpacing_14 : decode cX8_planPhotoSpacing 14 = .ok (.getfield 47, 3) := by decide +kernel
theorem dX8_planPhotoSpacing_17 : decode cX8_planPhotoSpacing 17 = .ok (.aload_n 0, 1) := by decide +kernel
theorem dX8_planPhotoSpacing_18 : decode cX8_planPhotoSpacing 18 = .ok (.getfield 12, 3) := by decide +kernel
theorem dX8_planPhotoSpacing_21 : decode cX8_planPhotoSpacing 21 = .ok (.aload_n 0, 1) := by decide +kernel
theorem dX8_planPhotoSpacing_22 : decode cX8_planPhotoSpacing 22 = .ok (.getfield 19, 3) := by decide +kernel
theorem dX8_planPhotoSpacing_25 : decode cX8_planPhotoSpacing 25 = .ok (.iload_n 1, 1) := by decide +kernel
theorem dX8_planPhotoSpacing_26 : decode cX8_planPhotoSpacing 26 = .ok (.invokevirtual 163, 3) := by decide +kernel
theorem dX8_planPhotoSpacing_29 : decode cX8_planPhotoSpacing 29 = .ok (.ifCond .eq 13, 3) := by decide +kernel
theorem dX8_planPhotoSpacing_32 : decode cX8_planPhotoSpacing 32 = .ok (.aload_n 0, 1) := by decide +kernel
theorem dX8_planPhotoSpacing_33 : decode cX8_planPhotoSpacing 33 = .ok (.getfield 47, 3) := by decide +kernel
theorem dX8_planPhotoSpacing_36 : decode cX8_planPhotoSpacing 36 = .ok (.getfield 172, 3) := by decide +kernel
theorem dX8_planPhotoSpacing_39 : decode cX8_planPhotoSpacing 39 = .ok (.goto 5, 3) := by decide +kernel
theorem dX8_planPhotoSpacing_42 : decode cX8_planPhotoSpacing 42 = .ok (.bipush (-6), 2) := by decide +kernel
theorem dX8_planPhotoSpacing_44 : decode cX8_planPhotoSpacing 44 = .ok (.ireturn, 1) := by decide +kernel
set_option maxRecDepth 20000 in
theorem ggX8_applyPlan_X8_isWithin : GoodIn wsX8_applyPlan wsX8_isWithin := goodIn_r _ [11] (by decide +kernel) (by decide +kernel)
set_option maxRecDepth 20000 in
theorem gX8_applyPlan_X8_isWithin : GoodIn wsX8_applyPlan (va_wsS RX8 58 yX8_isWithin wsX8_isWithin) := goodIn_app (goodIn_of _ (by decide +kernel)) ggX8_applyPlan_X8_isWithin
set_option maxRecDepth 20000 in
theorem ggX8_applyPlan_X3_search : GoodIn wsX8_applyPlan wsX3_search := goodIn_r _ [16, 17, 18, 19, 20, 21, 22, 23, 24, 25, 26, 27, 28, 29, 30, 31, 10, 32, 33, 34, 35, 36, 37, 38, 39, 40, 41, 42, 43, 44, 45, 46, 47, 48, 49, 50, 51, 52, 53, 54, 55, 56, 57, 58, 59, 60, 61, 62, 63, 64, 65, 66, 67, 68, 69, 70, 71, 72, 73, 74, 75, 76, 77, 78, 79, 80, 81, 82, 83, 84, 85, 86, 87, 88, 89, 90, 91, 92, 93, 94, 95, 96, 97, 98, 99, 100, 101, 102, 103, 104, 105, 106, 107, 108, 109, 124, 125, 126, 118, 119, 120, 121, 122, 123, 127, 128, 129, 130, 131, 132, 133, 134] (by decide +kernel) (by decide +kernel)
set_option maxRecDepth 20000 in
theorem gX8_applyPlan_X3_search : GoodIn wsX8_applyPlan (wsV RX8 163 RX3 yX3_search wsX3_search) := goodIn_app (goodIn_of _ (by decide +kernel)) ggX8_applyPlan_X3_search
set_option maxRecDepth 20000 in
theorem ggX8_applyPlan_X6_layOut : GoodIn wsX8_applyPlan wsX6_layOut := goodIn_r _ [27, 28, 29, 30, 31, 10, 32, 33, 34, 35, 26, 36, 37, 38, 39, 40, 41, 42, 43, 44, 45, 46, 47, 48, 49, 50, 51, 52, 53, 54, 124, 125, 126, 122, 123, 127, 128, 129, 130] (by decide +kernel) (by decide +kernel)
set_option maxRecDepth 20000 in
theorem gX8_applyPlan_X6_layOut : GoodIn wsX8_applyPlan (wsV RX8 175 RX6 yX6_layOut wsX6_layOut) := goodIn_app (goodIn_of _ (by decide +kernel)) ggX8_applyPlan_X6_layOut
theorem dX8_applyPlan_0 : decode cX8_applyPlan 0 = .ok (.iload_n 1, 1) := by decide +kernel
theorem dX8_applyPlan_1 : decode cX8_applyPlan 1 = .ok (.iconst 1, 1) := by decide +kernel
theorem dX8_applyPlan_2 : decode cX8_applyPlan 2 = .ok (.bipush 9, 2) := by decide +kernel
theorem dX8_applyPlan_4 : decode cX8_applyPlan 4 = .ok (.invokestatic 58, 3) := by decide +kernel
theorem dX8_applyPlan_7 : decode cX8_applyPlan 7 = .ok (.ifCond .ne 6, 3) := by decide +kernel
theorem dX8_applyPlan_10 : decode cX8_applyPlan 10 = .ok (.bipush (-4), 2) := by decide +kernel
theorem dX8_applyPlan_12 : decode cX8_applyPlan 12 = .ok (.ireturn, 1) := by decide +kernel
theorem dX8_applyPlan_13 : decode cX8_applyPlan 13 = .ok (.aload_n 0, 1) := by decide +kernel
theorem dX8_applyPlan_14 : decode cX8_applyPlan 14 = .ok (.getfield 47, 3) := by decide +kernel
theorem dX8_applyPlan_17 : decode cX8_applyPlan 17 = .ok (.aload_n 0, 1) := by decide +kernel
theorem dX8_applyPlan_18 : decode cX8_applyPlan 18 = .ok (.getfield 12, 3) := by decide +kernel
theorem dX8_applyPlan_21 : decode cX8_applyPlan 21 = .ok (.aload_n 0, 1) := by decide +kernel
theorem dX8_applyPlan_22 : decode cX8_applyPlan 22 = .ok (.getfield 19, 3) := by decide +kernel
theorem dX8_applyPlan_25 : decode cX8_applyPlan 25 = .ok (.iload_n 1, 1) := by decide +kernel
theorem dX8_applyPlan_26 : decode cX8_applyPlan 26 = .ok (.invokevirtual 163, 3) := by decide +kernel
theorem dX8_applyPlan_29 : decode cX8_applyPlan 29 = .ok (.ifCond .ne 6, 3) := by decide +kernel
theorem dX8_applyPlan_32 : decode cX8_applyPlan 32 = .ok (.bipush (-6), 2) := by decide +kernel
theorem dX8_applyPlan_34 : decode cX8_applyPlan 34 = .ok (.ireturn, 1) := by decide +kernel
theorem dX8_applyPlan_35 : decode cX8_applyPlan 35 = .ok (.aload_n 0, 1) := by decide +kernel
theorem dX8_applyPlan_36 : decode cX8_applyPlan 36 = .ok (.getfield 33, 3) := by decide +kernel
theorem dX8_applyPlan_39 : decode cX8_applyPlan 39 = .ok (.aload_n 0, 1) := by decide +kernel
theorem dX8_applyPlan_40 : decode cX8_applyPlan 40 = .ok (.getfield 12, 3) := by decide +kernel
theorem dX8_applyPlan_43 : decode cX8_applyPlan 43 = .ok (.aload_n 0, 1) := by decide +kernel
theorem dX8_applyPlan_44 : decode cX8_applyPlan 44 = .ok (.getfield 47, 3) := by decide +kernel
theorem dX8_applyPlan_47 : decode cX8_applyPlan 47 = .ok (.getfield 169, 3) := by decide +kernel
theorem dX8_applyPlan_50 : decode cX8_applyPlan 50 = .ok (.aload_n 0, 1) := by decide +kernel
theorem dX8_applyPlan_51 : decode cX8_applyPlan 51 = .ok (.getfield 47, 3) := by decide +kernel
theorem dX8_applyPlan_54 : decode cX8_applyPlan 54 = .ok (.getfield 172, 3) := by decide +kernel
theorem dX8_applyPlan_57 : decode cX8_applyPlan 57 = .ok (.invokevirtual 175, 3) := by decide +kernel
theorem dX8_applyPlan_60 : decode cX8_applyPlan 60 = .ok (.pop, 1) := by decide +kernel
theorem dX8_applyPlan_61 : decode cX8_applyPlan 61 = .ok (.aload_n 0, 1) := by decide +kernel
theorem dX8_applyPlan_62 : decode cX8_applyPlan 62 = .ok (.getfield 33, 3) := by decide +kernel
theorem dX8_applyPlan_65 : decode cX8_applyPlan 65 = .ok (.getfield 118, 3) := by decide +kernel
theorem dX8_applyPlan_68 : decode cX8_applyPlan 68 = .ok (.ireturn, 1) := by decide +kernel
set_option maxRecDepth 20000 in
theorem ggX8_stripTime_X6_find : GoodIn wsX8_stripTime wsX6_find := goodIn_r _ [7, 8, 9, 10, 11, 6, 12, 13, 33, 34] (by decide +kernel) (by decide +kernel)
set_option maxRecDepth 20000 in
theorem gX8_stripTime_X6_find : GoodIn wsX8_stripTime (wsV RX8 110 RX6 yX6_find wsX6_find) := goodIn_app (goodIn_of _ (by decide +kernel)) ggX8_stripTime_X6_find
set_option maxRecDepth 20000 in
theorem ggX8_stripTime_X0_flightTime : GoodIn wsX8_stripTime wsX0_flightTime := goodIn_r _ [18, 19, 20, 21, 22, 23, 24, 25, 35, 36, 37, 38, 39, 40, 41] (by decide +kernel) (by decide +kernel)
set_option maxRecDepth 20000 in
theorem gX8_stripTime_X0_flightTime : GoodIn wsX8_stripTime (wsV RX8 179 RX0 yX0_flightTime wsX0_flightTime) := goodIn_app (goodIn_of _ (by decide +kernel)) ggX8_stripTime_X0_flightTime
theorem dX8_stripTime_0 : decode cX8_stripTime 0 = .ok (.aload_n 0, 1) := by decide +kernel
theorem dX8_stripTime_1 : decode cX8_stripTime 1 = .ok (.getfield 33, 3) := by decide +kernel
theorem dX8_stripTime_4 : decode cX8_stripTime 4 = .ok (.iload_n 1, 1) := by decide +kernel
theorem dX8_stripTime_5 : decode cX8_stripTime 5 = .ok (.invokevirtual 110, 3) := by decide +kernel
theorem dX8_stripTime_8 : decode cX8_stripTime 8 = .ok (.astore_n 3, 1) := by decide +kernel
theorem dX8_stripTime_9 : decode cX8_stripTime 9 = .ok (.aload_n 3, 1) := by decide +kernel
theorem dX8_stripTime_10 : decode cX8_stripTime 10 = .ok (.ifnonnull 6, 3) := by decide +kernel
theorem dX8_stripTime_13 : decode cX8_stripTime 13 = .ok (.bipush (-2), 2) := by decide +kernel
theorem dX8_stripTime_15 : decode cX8_stripTime 15 = .ok (.ireturn, 1) := by decide +kernel
theorem dX8_stripTime_16 : decode cX8_stripTime 16 = .ok (.aload_n 0, 1) := by decide +kernel
theorem dX8_stripTime_17 : decode cX8_stripTime 17 = .ok (.getfield 26, 3) := by decide +kernel
theorem dX8_stripTime_20 : decode cX8_stripTime 20 = .ok (.aload_n 3, 1) := by decide +kernel
theorem dX8_stripTime_21 : decode cX8_stripTime 21 = .ok (.iload_n 2, 1) := by decide +kernel
theorem dX8_stripTime_22 : decode cX8_stripTime 22 = .ok (.invokevirtual 179, 3) := by decide +kernel
theorem dX8_stripTime_25 : decode cX8_stripTime 25 = .ok (.ireturn, 1) := by decide +kernel
set_option maxRecDepth 20000 in
theorem ggX8_routeTime_X7_contains : GoodIn wsX8_routeTime wsX7_contains := goodIn_r _ [9, 10, 11, 95, 96, 97] (by decide +kernel) (by decide +kernel)
set_option maxRecDepth 20000 in
theorem gX8_routeTime_X7_contains : GoodIn wsX8_routeTime (wsV RX8 69 RX7 yX7_contains wsX7_contains) := goodIn_app (goodIn_of _ (by decide +kernel)) ggX8_routeTime_X7_contains
set_option maxRecDepth 20000 in
theorem ggX8_routeTime_X4_fastestTime : GoodIn wsX8_routeTime wsX4_fastestTime := goodIn_r _ [16, 17, 18, 19, 20, 21, 15, 22, 23, 24, 25, 26, 27, 28, 29, 30, 31, 32, 33, 34, 35, 36, 37, 38, 39, 40, 41, 42, 43, 44, 45, 46, 47, 48, 49, 50, 51, 52, 53, 54, 55, 56, 57, 58, 59, 60, 61, 62, 63, 64, 65, 66, 67, 68, 69, 70, 71, 72, 73, 74, 75, 76, 77, 78, 79, 80, 81, 82, 83, 84, 85, 86, 87, 98, 99, 100, 101, 102, 103, 104, 105, 106, 107, 108, 109] (by decide +kernel) (by decide +kernel)
set_option maxRecDepth 20000 in
theorem gX8_routeTime_X4_fastestTime : GoodIn wsX8_routeTime (wsV RX8 183 RX4 yX4_fastestTime wsX4_fastestTime) := goodIn_app (goodIn_of _ (by decide +kernel)) ggX8_routeTime_X4_fastestTime
theorem dX8_routeTime_0 : decode cX8_routeTime 0 = .ok (.aload_n 0, 1) := by decide +kernel
theorem dX8_routeTime_1 : decode cX8_routeTime 1 = .ok (.getfield 12, 3) := by decide +kernel
theorem dX8_routeTime_4 : decode cX8_routeTime 4 = .ok (.iload_n 1, 1) := by decide +kernel
theorem dX8_routeTime_5 : decode cX8_routeTime 5 = .ok (.iload_n 2, 1) := by decide +kernel
theorem dX8_routeTime_6 : decode cX8_routeTime 6 = .ok (.invokevirtual 69, 3) := by decide +kernel
theorem dX8_routeTime_9 : decode cX8_routeTime 9 = .ok (.ifCond .ne 5, 3) := by decide +kernel
theorem dX8_routeTime_12 : decode cX8_routeTime 12 = .ok (.iconst (-1), 1) := by decide +kernel
theorem dX8_routeTime_13 : decode cX8_routeTime 13 = .ok (.ireturn, 1) := by decide +kernel
theorem dX8_routeTime_14 : decode cX8_routeTime 14 = .ok (.aload_n 0, 1) := by decide +kernel
theorem dX8_routeTime_15 : decode cX8_routeTime 15 = .ok (.getfield 54, 3) := by decide +kernel
theorem dX8_routeTime_18 : decode cX8_routeTime 18 = .ok (.aload_n 0, 1) := by decide +kernel
theorem dX8_routeTime_19 : decode cX8_routeTime 19 = .ok (.getfield 33, 3) := by decide +kernel
theorem dX8_routeTime_22 : decode cX8_routeTime 22 = .ok (.aload_n 0, 1) := by decide +kernel
theorem dX8_routeTime_23 : decode cX8_routeTime 23 = .ok (.getfield 26, 3) := by decide +kernel
theorem dX8_routeTime_26 : decode cX8_routeTime 26 = .ok (.iload_n 1, 1) := by decide +kernel
theorem dX8_routeTime_27 : decode cX8_routeTime 27 = .ok (.iload_n 2, 1) := by decide +kernel
theorem dX8_routeTime_28 : decode cX8_routeTime 28 = .ok (.invokevirtual 183, 3) := by decide +kernel
theorem dX8_routeTime_31 : decode cX8_routeTime 31 = .ok (.ireturn, 1) := by decide +kernel
set_option maxRecDepth 20000 in
theorem ggX8_routeStep_X7_contains : GoodIn wsX8_routeStep wsX7_contains := goodIn_r _ [10, 11, 12, 98, 99, 100] (by decide +kernel) (by decide +kernel)
set_option maxRecDepth 20000 in
theorem gX8_routeStep_X7_contains : GoodIn wsX8_routeStep (wsV RX8 69 RX7 yX7_contains wsX7_contains) := goodIn_app (goodIn_of _ (by decide +kernel)) ggX8_routeStep_X7_contains
set_option maxRecDepth 20000 in
theorem ggX8_routeStep_X4_fastestStep : GoodIn wsX8_routeStep wsX4_fastestStep := goodIn_r _ [17, 18, 19, 20, 21, 22, 23, 16, 24, 25, 26, 27, 28, 29, 30, 31, 32, 33, 34, 35, 36, 37, 38, 39, 40, 41, 42, 43, 44, 45, 46, 47, 48, 49, 50, 51, 52, 53, 54, 55, 56, 57, 58, 59, 60, 61, 62, 63, 64, 65, 66, 67, 68, 69, 70, 71, 72, 73, 74, 75, 76, 77, 78, 79, 80, 81, 82, 83, 84, 85, 86, 87, 88, 96, 97, 101, 102, 103, 104, 105, 106, 107, 108, 109, 110] (by decide +kernel) (by decide +kernel)
set_option maxRecDepth 20000 in
theorem gX8_routeStep_X4_fastestStep : GoodIn wsX8_routeStep (wsV RX8 187 RX4 yX4_fastestStep wsX4_fastestStep) := goodIn_app (goodIn_of _ (by decide +kernel)) ggX8_routeStep_X4_fastestStep
theorem dX8_routeStep_0 : decode cX8_routeStep 0 = .ok (.aload_n 0, 1) := by decide +kernel
theorem dX8_routeStep_1 : decode cX8_routeStep 1 = .ok (.getfield 12, 3) := by decide +kernel
theorem dX8_routeStep_4 : decode cX8_routeStep 4 = .ok (.iload_n 1, 1) := by decide +kernel
theorem dX8_routeStep_5 : decode cX8_routeStep 5 = .ok (.iload_n 2, 1) := by decide +kernel
theorem dX8_routeStep_6 : decode cX8_routeStep 6 = .ok (.invokevirtual 69, 3) := by decide +kernel
theorem dX8_routeStep_9 : decode cX8_routeStep 9 = .ok (.ifCond .ne 5, 3) := by decide +kernel
theorem dX8_routeStep_12 : decode cX8_routeStep 12 = .ok (.iconst (-1), 1) := by decide +kernel
theorem dX8_routeStep_13 : decode cX8_routeStep 13 = .ok (.ireturn, 1) := by decide +kernel
theorem dX8_routeStep_14 : decode cX8_routeStep 14 = .ok (.iload_n 3, 1) := by decide +kernel
theorem dX8_routeStep_15 : decode cX8_routeStep 15 = .ok (.ifCond .ge 6, 3) := by decide +kernel
theorem dX8_routeStep_18 : decode cX8_routeStep 18 = .ok (.bipush (-4), 2) := by decide +kernel
theorem dX8_routeStep_20 : decode cX8_routeStep 20 = .ok (.ireturn, 1) := by decide +kernel
theorem dX8_routeStep_21 : decode cX8_routeStep 21 = .ok (.iload_n 3, 1) := by decide +kernel
theorem dX8_routeStep_22 : decode cX8_routeStep 22 = .ok (.aload_n 0, 1) := by decide +kernel
theorem dX8_routeStep_23 : decode cX8_routeStep 23 = .ok (.getfield 33, 3) := by decide +kernel
theorem dX8_routeStep_26 : decode cX8_routeStep 26 = .ok (.getfield 118, 3) := by decide +kernel
theorem dX8_routeStep_29 : decode cX8_routeStep 29 = .ok (.if_icmp .lt 6, 3) := by decide +kernel
theorem dX8_routeStep_32 : decode cX8_routeStep 32 = .ok (.bipush (-6), 2) := by decide +kernel
theorem dX8_routeStep_34 : decode cX8_routeStep 34 = .ok (.ireturn, 1) := by decide +kernel
theorem dX8_routeStep_35 : decode cX8_routeStep 35 = .ok (.aload_n 0, 1) := by decide +kernel
theorem dX8_routeStep_36 : decode cX8_routeStep 36 = .ok (.getfield 54, 3) := by decide +kernel
theorem dX8_routeStep_39 : decode cX8_routeStep 39 = .ok (.aload_n 0, 1) := by decide +kernel
theorem dX8_routeStep_40 : decode cX8_routeStep 40 = .ok (.getfield 33, 3) := by decide +kernel
theorem dX8_routeStep_43 : decode cX8_routeStep 43 = .ok (.aload_n 0, 1) := by decide +kernel
theorem dX8_routeStep_44 : decode cX8_routeStep 44 = .ok (.getfield 26, 3) := by decide +kernel
theorem dX8_routeStep_47 : decode cX8_routeStep 47 = .ok (.iload_n 1, 1) := by decide +kernel
theorem dX8_routeStep_48 : decode cX8_routeStep 48 = .ok (.iload_n 2, 1) := by decide +kernel
theorem dX8_routeStep_49 : decode cX8_routeStep 49 = .ok (.iload_n 3, 1) := by decide +kernel
theorem dX8_routeStep_50 : decode cX8_routeStep 50 = .ok (.invokevirtual 187, 3) := by decide +kernel
theorem dX8_routeStep_53 : decode cX8_routeStep 53 = .ok (.ireturn, 1) := by decide +kernel
theorem dX8_isWithin_0 : decode cX8_isWithin 0 = .ok (.iload_n 0, 1) := by decide +kernel
theorem dX8_isWithin_1 : decode cX8_isWithin 1 = .ok (.iload_n 1, 1) := by decide +kernel
theorem dX8_isWithin_2 : decode cX8_isWithin 2 = .ok (.if_icmp .lt 12, 3) := by decide +kernel
theorem dX8_isWithin_5 : decode cX8_isWithin 5 = .ok (.iload_n 0, 1) := by decide +kernel
theorem dX8_isWithin_6 : decode cX8_isWithin 6 = .ok (.iload_n 2, 1) := by decide +kernel
theorem dX8_isWithin_7 : decode cX8_isWithin 7 = .ok (.if_icmp .gt 7, 3) := by decide +kernel
theorem dX8_isWithin_10 : decode cX8_isWithin 10 = .ok (.iconst 1, 1) := by decide +kernel
theorem dX8_isWithin_11 : decode cX8_isWithin 11 = .ok (.goto 4, 3) := by decide +kernel
theorem dX8_isWithin_14 : decode cX8_isWithin 14 = .ok (.iconst 0, 1) := by decide +kernel
theorem dX8_isWithin_15 : decode cX8_isWithin 15 = .ok (.ireturn, 1) := by decide +kernel
theorem dX8_quotient_0 : decode cX8_quotient 0 = .ok (.iload_n 1, 1) := by decide +kernel
theorem dX8_quotient_1 : decode cX8_quotient 1 = .ok (.ifCond .le 9, 3) := by decide +kernel
theorem dX8_quotient_4 : decode cX8_quotient 4 = .ok (.iload_n 0, 1) := by decide +kernel
theorem dX8_quotient_5 : decode cX8_quotient 5 = .ok (.iload_n 1, 1) := by decide +kernel
theorem dX8_quotient_6 : decode cX8_quotient 6 = .ok (.idiv, 1) := by decide +kernel
theorem dX8_quotient_7 : decode cX8_quotient 7 = .ok (.goto 4, 3) := by decide +kernel
theorem dX8_quotient_10 : decode cX8_quotient 10 = .ok (.iconst 0, 1) := by decide +kernel
theorem dX8_quotient_11 : decode cX8_quotient 11 = .ok (.ireturn, 1) := by decide +kernel
theorem dX9_init_0 : decode cX9_init 0 = .ok (.aload_n 0, 1) := by decide +kernel
theorem dX9_init_1 : decode cX9_init 1 = .ok (.invokespecial 1, 3) := by decide +kernel
theorem dX9_init_4 : decode cX9_init 4 = .ok (.aload_n 0, 1) := by decide +kernel
theorem dX9_init_5 : decode cX9_init 5 = .ok (.sipush 1000, 3) := by decide +kernel
theorem dX9_init_8 : decode cX9_init 8 = .ok (.putfield 7, 3) := by decide +kernel
theorem dX9_init_11 : decode cX9_init 11 = .ok (.aload_n 0, 1) := by decide +kernel
theorem dX9_init_12 : decode cX9_init 12 = .ok (.iconst 3, 1) := by decide +kernel
theorem dX9_init_13 : decode cX9_init 13 = .ok (.putfield 13, 3) := by decide +kernel
theorem dX9_init_16 : decode cX9_init 16 = .ok (.aload_n 0, 1) := by decide +kernel
theorem dX9_init_17 : decode cX9_init 17 = .ok (.iconst 2, 1) := by decide +kernel
theorem dX9_init_18 : decode cX9_init 18 = .ok (.putfield 16, 3) := by decide +kernel
theorem dX9_init_21 : decode cX9_init 21 = .ok (.aload_n 0, 1) := by decide +kernel
theorem dX9_init_22 : decode cX9_init 22 = .ok (.bipush 100, 2) := by decide +kernel
theorem dX9_init_24 : decode cX9_init 24 = .ok (.putfield 19, 3) := by decide +kernel
theorem dX9_init_27 : decode cX9_init 27 = .ok (.aload_n 0, 1) := by decide +kernel
theorem dX9_init_28 : decode cX9_init 28 = .ok (.bipush 60, 2) := by decide +kernel
theorem dX9_init_30 : decode cX9_init 30 = .ok (.putfield 22, 3) := by decide +kernel
theorem dX9_init_33 : decode cX9_init 33 = .ok (.aload_n 0, 1) := by decide +kernel
theorem dX9_init_34 : decode cX9_init 34 = .ok (.sipush 160, 3) := by decide +kernel
theorem dX9_init_37 : decode cX9_init 37 = .ok (.newarray .int, 2) := by decide +kernel
theorem dX9_init_39 : decode cX9_init 39 = .ok (.putfield 25, 3) := by decide +kernel
theorem dX9_init_42 : decode cX9_init 42 = .ok (.aload_n 0, 1) := by decide +kernel
theorem dX9_init_43 : decode cX9_init 43 = .ok (.bipush 8, 2) := by decide +kernel
theorem dX9_init_45 : decode cX9_init 45 = .ok (.newarray .int, 2) := by decide +kernel
theorem dX9_init_47 : decode cX9_init 47 = .ok (.putfield 29, 3) := by decide +kernel
theorem dX9_init_50 : decode cX9_init 50 = .ok (.aload_n 0, 1) := by decide +kernel
theorem dX9_init_51 : decode cX9_init 51 = .ok (.bipush 8, 2) := by decide +kernel
theorem dX9_init_53 : decode cX9_init 53 = .ok (.newarray .int, 2) := by decide +kernel
theorem dX9_init_55 : decode cX9_init 55 = .ok (.putfield 32, 3) := by decide +kernel
theorem dX9_init_58 : decode cX9_init 58 = .ok (.aload_n 0, 1) := by decide +kernel
theorem dX9_init_59 : decode cX9_init 59 = .ok (.bipush 8, 2) := by decide +kernel
theorem dX9_init_61 : decode cX9_init 61 = .ok (.newarray .int, 2) := by decide +kernel
theorem dX9_init_63 : decode cX9_init 63 = .ok (.putfield 35, 3) := by decide +kernel
theorem dX9_init_66 : decode cX9_init 66 = .ok (.aload_n 0, 1) := by decide +kernel
theorem dX9_init_67 : decode cX9_init 67 = .ok (.bipush 8, 2) := by decide +kernel
theorem dX9_init_69 : decode cX9_init 69 = .ok (.newarray .int, 2) := by decide +kernel
theorem dX9_init_71 : decode cX9_init 71 = .ok (.putfield 38, 3) := by decide +kernel
theorem dX9_init_74 : decode cX9_init 74 = .ok (.aload_n 0, 1) := by decide +kernel
theorem dX9_init_75 : decode cX9_init 75 = .ok (.sipush 25600, 3) := by decide +kernel
theorem dX9_init_78 : decode cX9_init 78 = .ok (.newarray .boolean, 2) := by decide +kernel
theorem dX9_init_80 : decode cX9_init 80 = .ok (.putfield 41, 3) := by decide +kernel
theorem dX9_init_83 : decode cX9_init 83 = .ok (.aload_n 0, 1) := by decide +kernel
theorem dX9_init_84 : decode cX9_init 84 = .ok (.sipush 4096, 3) := by decide +kernel
theorem dX9_init_87 : decode cX9_init 87 = .ok (.newarray .int, 2) := by decide +kernel
theorem dX9_init_89 : decode cX9_init 89 = .ok (.putfield 45, 3) := by decide +kernel
theorem dX9_init_92 : decode cX9_init 92 = .ok (.aload_n 0, 1) := by decide +kernel
theorem dX9_init_93 : decode cX9_init 93 = .ok (.bipush 6, 2) := by decide +kernel
theorem dX9_init_95 : decode cX9_init 95 = .ok (.putfield 48, 3) := by decide +kernel
theorem dX9_init_98 : decode cX9_init 98 = .ok (.aload_n 0, 1) := by decide +kernel
theorem dX9_init_99 : decode cX9_init 99 = .ok (.bipush 10, 2) := by decide +kernel
theorem dX9_init_101 : decode cX9_init 101 = .ok (.putfield 51, 3) := by decide +kernel
theorem dX9_init_104 : decode cX9_init 104 = .ok (.return_, 1) := by decide +kernel
theorem dX9_isBetween_0 : decode cX9_isBetween 0 = .ok (.iload_n 0, 1) := by decide +kernel
theorem dX9_isBetween_1 : decode cX9_isBetween 1 = .ok (.iload_n 1, 1) := by decide +kernel
theorem dX9_isBetween_2 : decode cX9_isBetween 2 = .ok (.if_icmp .lt 12, 3) := by decide +kernel
theorem dX9_isBetween_5 : decode cX9_isBetween 5 = .ok (.iload_n 0, 1) := by decide +kernel
theorem dX9_isBetween_6 : decode cX9_isBetween 6 = .ok (.iload_n 2, 1) := by decide +kernel
theorem dX9_isBetween_7 : decode cX9_isBetween 7 = .ok (.if_icmp .gt 7, 3) := by decide +kernel
theorem dX9_isBetween_10 : decode cX9_isBetween 10 = .ok (.iconst 1, 1) := by decide +kernel
theorem dX9_isBetween_11 : decode cX9_isBetween 11 = .ok (.goto 4, 3) := by decide +kernel
theorem dX9_isBetween_14 : decode cX9_isBetween 14 = .ok (.iconst 0, 1) := by decide +kernel
theorem dX9_isBetween_15 : decode cX9_isBetween 15 = .ok (.ireturn, 1) := by decide +kernel
theorem dX9_size_0 : decode cX9_size 0 = .ok (.iload_n 0, 1) := by decide +kernel
theorem dX9_size_1 : decode cX9_size 1 = .ok (.ifCond .ge 8, 3) := by decide +kernel
theorem dX9_size_4 : decode cX9_size 4 = .ok (.iload_n 0, 1) := by decide +kernel
theorem dX9_size_5 : decode cX9_size 5 = .ok (.ineg, 1) := by decide +kernel
