theorem dX0_init_0 : decode cX0_init 0 = .ok (.aload_n 0, 1) := by decide +kernel
theorem dX0_init_1 : decode cX0_init 1 = .ok (.invokespecial 1, 3) := by decide +kernel
theorem dX0_init_4 : decode cX0_init 4 = .ok (.aload_n 0, 1) := by decide +kernel
theorem dX0_init_5 : decode cX0_init 5 = .ok (.bipush 100, 2) := by decide +kernel
theorem dX0_init_7 : decode cX0_init 7 = .ok (.putfield 7, 3) := by decide +kernel
theorem dX0_init_10 : decode cX0_init 10 = .ok (.aload_n 0, 1) := by decide +kernel
theorem dX0_init_11 : decode cX0_init 11 = .ok (.iconst 0, 1) := by decide +kernel
theorem dX0_init_12 : decode cX0_init 12 = .ok (.putfield 13, 3) := by decide +kernel
theorem dX0_init_15 : decode cX0_init 15 = .ok (.aload_n 0, 1) := by decide +kernel
theorem dX0_init_16 : decode cX0_init 16 = .ok (.bipush 60, 2) := by decide +kernel
theorem dX0_init_18 : decode cX0_init 18 = .ok (.putfield 16, 3) := by decide +kernel
theorem dX0_init_21 : decode cX0_init 21 = .ok (.return_, 1) := by decide +kernel
set_option maxRecDepth 20000 in
theorem ggX0_flightTime_X8_quotient : GoodIn wsX0_flightTime wsX8_quotient := goodIn_r _ [7] (by decide +kernel) (by decide +kernel)
set_option maxRecDepth 20000 in
theorem gX0_flightTime_X8_quotient_n27 : GoodIn wsX0_flightTime (wsX8_quotient) := ggX0_flightTime_X8_quotient
theorem dX0_flightTime_0 : decode cX0_flightTime 0 = .ok (.iload_n 2, 1) := by decide +kernel
theorem dX0_flightTime_1 : decode cX0_flightTime 1 = .ok (.ifCond .eq 15, 3) := by decide +kernel
theorem dX0_flightTime_4 : decode cX0_flightTime 4 = .ok (.aload_n 0, 1) := by decide +kernel
theorem dX0_flightTime_5 : decode cX0_flightTime 5 = .ok (.getfield 7, 3) := by decide +kernel
theorem dX0_flightTime_8 : decode cX0_flightTime 8 = .ok (.aload_n 0, 1) := by decide +kernel
theorem dX0_flightTime_9 : decode cX0_flightTime 9 = .ok (.getfield 13, 3) := by decide +kernel
theorem dX0_flightTime_12 : decode cX0_flightTime 12 = .ok (.iadd, 1) := by decide +kernel
theorem dX0_flightTime_13 : decode cX0_flightTime 13 = .ok (.goto 12, 3) := by decide +kernel
theorem dX0_flightTime_16 : decode cX0_flightTime 16 = .ok (.aload_n 0, 1) := by decide +kernel
theorem dX0_flightTime_17 : decode cX0_flightTime 17 = .ok (.getfield 7, 3) := by decide +kernel
theorem dX0_flightTime_20 : decode cX0_flightTime 20 = .ok (.aload_n 0, 1) := by decide +kernel
theorem dX0_flightTime_21 : decode cX0_flightTime 21 = .ok (.getfield 13, 3) := by decide +kernel
theorem dX0_flightTime_24 : decode cX0_flightTime 24 = .ok (.isub, 1) := by decide +kernel
theorem dX0_flightTime_25 : decode cX0_flightTime 25 = .ok (.istore_n 3, 1) := by decide +kernel
theorem dX0_flightTime_26 : decode cX0_flightTime 26 = .ok (.aload_n 1, 1) := by decide +kernel
theorem dX0_flightTime_27 : decode cX0_flightTime 27 = .ok (.getfield 19, 3) := by decide +kernel
theorem dX0_flightTime_30 : decode cX0_flightTime 30 = .ok (.aload_n 1, 1) := by decide +kernel
theorem dX0_flightTime_31 : decode cX0_flightTime 31 = .ok (.getfield 24, 3) := by decide +kernel
theorem dX0_flightTime_34 : decode cX0_flightTime 34 = .ok (.isub, 1) := by decide +kernel
theorem dX0_flightTime_35 : decode cX0_flightTime 35 = .ok (.sipush 1000, 3) := by decide +kernel
theorem dX0_flightTime_38 : decode cX0_flightTime 38 = .ok (.imul, 1) := by decide +kernel
theorem dX0_flightTime_39 : decode cX0_flightTime 39 = .ok (.iload_n 3, 1) := by decide +kernel
theorem dX0_flightTime_40 : decode cX0_flightTime 40 = .ok (.invokestatic 27, 3) := by decide +kernel
theorem dX0_flightTime_43 : decode cX0_flightTime 43 = .ok (.ireturn, 1) := by decide +kernel
set_option maxRecDepth 20000 in
theorem ggX0_transferTime_X5_entryColumn : GoodIn wsX0_transferTime wsX5_entryColumn := goodIn_r _ [12, 13, 14, 18, 19, 20, 21] (by decide +kernel) (by decide +kernel)
set_option maxRecDepth 20000 in
theorem gX0_transferTime_X5_entryColumn : GoodIn wsX0_transferTime (wsV RX0 42 RX5 yX5_entryColumn wsX5_entryColumn) := goodIn_app (goodIn_of _ (by decide +kernel)) ggX0_transferTime_X5_entryColumn
set_option maxRecDepth 20000 in
theorem ggX0_transferTime_X8_quotient : GoodIn wsX0_transferTime wsX8_quotient := goodIn_r _ [17] (by decide +kernel) (by decide +kernel)
set_option maxRecDepth 20000 in
theorem gX0_transferTime_X8_quotient_n27 : GoodIn wsX0_transferTime (wsX8_quotient) := ggX0_transferTime_X8_quotient
theorem dX0_transferTime_0 : decode cX0_transferTime 0 = .ok (.aload_n 3, 1) := by decide +kernel
theorem dX0_transferTime_1 : decode cX0_transferTime 1 = .ok (.getfield 33, 3) := by decide +kernel
theorem dX0_transferTime_4 : decode cX0_transferTime 4 = .ok (.iload_n 1, 1) := by decide +kernel
theorem dX0_transferTime_5 : decode cX0_transferTime 5 = .ok (.isub, 1) := by decide +kernel
theorem dX0_transferTime_6 : decode cX0_transferTime 6 = .ok (.invokestatic 36, 3) := by decide +kernel
theorem dX0_transferTime_9 : decode cX0_transferTime 9 = .ok (.aload_n 3, 1) := by decide +kernel
theorem dX0_transferTime_10 : decode cX0_transferTime 10 = .ok (.iload 4, 2) := by decide +kernel
theorem dX0_transferTime_12 : decode cX0_transferTime 12 = .ok (.invokevirtual 42, 3) := by decide +kernel
theorem dX0_transferTime_15 : decode cX0_transferTime 15 = .ok (.iload_n 2, 1) := by decide +kernel
theorem dX0_transferTime_16 : decode cX0_transferTime 16 = .ok (.isub, 1) := by decide +kernel
theorem dX0_transferTime_17 : decode cX0_transferTime 17 = .ok (.invokestatic 36, 3) := by decide +kernel
theorem dX0_transferTime_20 : decode cX0_transferTime 20 = .ok (.iadd, 1) := by decide +kernel
theorem dX0_transferTime_21 : decode cX0_transferTime 21 = .ok (.istore 5, 2) := by decide +kernel
theorem dX0_transferTime_23 : decode cX0_transferTime 23 = .ok (.iload 5, 2) := by decide +kernel
theorem dX0_transferTime_25 : decode cX0_transferTime 25 = .ok (.sipush 1000, 3) := by decide +kernel
theorem dX0_transferTime_28 : decode cX0_transferTime 28 = .ok (.imul, 1) := by decide +kernel
theorem dX0_transferTime_29 : decode cX0_transferTime 29 = .ok (.aload_n 0, 1) := by decide +kernel
theorem dX0_transferTime_30 : decode cX0_transferTime 30 = .ok (.getfield 7, 3) := by decide +kernel
theorem dX0_transferTime_33 : decode cX0_transferTime 33 = .ok (.invokestatic 27, 3) := by decide +kernel
theorem dX0_transferTime_36 : decode cX0_transferTime 36 = .ok (.aload_n 0, 1) := by decide +kernel
theorem dX0_transferTime_37 : decode cX0_transferTime 37 = .ok (.getfield 16, 3) := by decide +kernel
theorem dX0_transferTime_40 : decode cX0_transferTime 40 = .ok (.iadd, 1) := by decide +kernel
theorem dX0_transferTime_41 : decode cX0_transferTime 41 = .ok (.ireturn, 1) := by decide +kernel
theorem dX1_init_0 : decode cX1_init 0 = .ok (.aload_n 0, 1) := by decide +kernel
theorem dX1_init_1 : decode cX1_init 1 = .ok (.invokespecial 1, 3) := by decide +kernel
theorem dX1_init_4 : decode cX1_init 4 = .ok (.aload_n 0, 1) := by decide +kernel
theorem dX1_init_5 : decode cX1_init 5 = .ok (.sipush 1000, 3) := by decide +kernel
theorem dX1_init_8 : decode cX1_init 8 = .ok (.putfield 7, 3) := by decide +kernel
theorem dX1_init_11 : decode cX1_init 11 = .ok (.aload_n 0, 1) := by decide +kernel
theorem dX1_init_12 : decode cX1_init 12 = .ok (.iconst 3, 1) := by decide +kernel
theorem dX1_init_13 : decode cX1_init 13 = .ok (.putfield 13, 3) := by decide +kernel
theorem dX1_init_16 : decode cX1_init 16 = .ok (.aload_n 0, 1) := by decide +kernel
theorem dX1_init_17 : decode cX1_init 17 = .ok (.iconst 2, 1) := by decide +kernel
theorem dX1_init_18 : decode cX1_init 18 = .ok (.putfield 16, 3) := by decide +kernel
theorem dX1_init_21 : decode cX1_init 21 = .ok (.aload_n 0, 1) := by decide +kernel
theorem dX1_init_22 : decode cX1_init 22 = .ok (.iconst 0, 1) := by decide +kernel
theorem dX1_init_23 : decode cX1_init 23 = .ok (.putfield 19, 3) := by decide +kernel
theorem dX1_init_26 : decode cX1_init 26 = .ok (.return_, 1) := by decide +kernel
set_option maxRecDepth 20000 in
theorem ggX1_sees_X7_heightAt : GoodIn wsX1_sees wsX7_heightAt := goodIn_r _ [13, 14, 31, 32, 33] (by decide +kernel) (by decide +kernel)
set_option maxRecDepth 20000 in
theorem gX1_sees_X7_heightAt : GoodIn wsX1_sees (wsV RX1 22 RX7 yX7_heightAt wsX7_heightAt) := goodIn_app (goodIn_of _ (by decide +kernel)) ggX1_sees_X7_heightAt
set_option maxRecDepth 20000 in
theorem ggX1_sees_X1_isLineFree : GoodIn wsX1_sees wsX1_isLineFree := goodIn_r _ [19, 3, 4, 5, 6, 20, 21, 22, 1, 9, 10, 11, 12, 13, 14, 23, 24, 25, 26, 27, 28, 29, 30, 31, 32, 33] (by decide +kernel) (by decide +kernel)
set_option maxRecDepth 20000 in
theorem gX1_sees_X1_isLineFree : GoodIn wsX1_sees (wsV RX1 34 RX1 yX1_isLineFree wsX1_isLineFree) := goodIn_app (goodIn_of _ (by decide +kernel)) ggX1_sees_X1_isLineFree
theorem dX1_sees_0 : decode cX1_sees 0 = .ok (.aload_n 0, 1) := by decide +kernel
theorem dX1_sees_1 : decode cX1_sees 1 = .ok (.getfield 7, 3) := by decide +kernel
theorem dX1_sees_4 : decode cX1_sees 4 = .ok (.aload_n 1, 1) := by decide +kernel
theorem dX1_sees_5 : decode cX1_sees 5 = .ok (.iload 4, 2) := by decide +kernel
theorem dX1_sees_7 : decode cX1_sees 7 = .ok (.iload 5, 2) := by decide +kernel
theorem dX1_sees_9 : decode cX1_sees 9 = .ok (.invokevirtual 22, 3) := by decide +kernel
theorem dX1_sees_12 : decode cX1_sees 12 = .ok (.isub, 1) := by decide +kernel
theorem dX1_sees_13 : decode cX1_sees 13 = .ok (.istore 6, 2) := by decide +kernel
theorem dX1_sees_15 : decode cX1_sees 15 = .ok (.iload 6, 2) := by decide +kernel
theorem dX1_sees_17 : decode cX1_sees 17 = .ok (.ifCond .gt 5, 3) := by decide +kernel
theorem dX1_sees_20 : decode cX1_sees 20 = .ok (.iconst 0, 1) := by decide +kernel
theorem dX1_sees_21 : decode cX1_sees 21 = .ok (.ireturn, 1) := by decide +kernel
theorem dX1_sees_22 : decode cX1_sees 22 = .ok (.iload 4, 2) := by decide +kernel
theorem dX1_sees_24 : decode cX1_sees 24 = .ok (.iload_n 2, 1) := by decide +kernel
theorem dX1_sees_25 : decode cX1_sees 25 = .ok (.isub, 1) := by decide +kernel
theorem dX1_sees_26 : decode cX1_sees 26 = .ok (.istore 7, 2) := by decide +kernel
theorem dX1_sees_28 : decode cX1_sees 28 = .ok (.iload 5, 2) := by decide +kernel
theorem dX1_sees_30 : decode cX1_sees 30 = .ok (.iload_n 3, 1) := by decide +kernel
theorem dX1_sees_31 : decode cX1_sees 31 = .ok (.isub, 1) := by decide +kernel
theorem dX1_sees_32 : decode cX1_sees 32 = .ok (.istore 8, 2) := by decide +kernel
theorem dX1_sees_34 : decode cX1_sees 34 = .ok (.bipush 100, 2) := by decide +kernel
theorem dX1_sees_36 : decode cX1_sees 36 = .ok (.iload 8, 2) := by decide +kernel
theorem dX1_sees_38 : decode cX1_sees 38 = .ok (.imul, 1) := by decide +kernel
theorem dX1_sees_39 : decode cX1_sees 39 = .ok (.aload_n 0, 1) := by decide +kernel
theorem dX1_sees_40 : decode cX1_sees 40 = .ok (.getfield 19, 3) := by decide +kernel
theorem dX1_sees_43 : decode cX1_sees 43 = .ok (.iload 7, 2) := by decide +kernel
theorem dX1_sees_45 : decode cX1_sees 45 = .ok (.imul, 1) := by decide +kernel
theorem dX1_sees_46 : decode cX1_sees 46 = .ok (.iadd, 1) := by decide +kernel
theorem dX1_sees_47 : decode cX1_sees 47 = .ok (.invokestatic 28, 3) := by decide +kernel
theorem dX1_sees_50 : decode cX1_sees 50 = .ok (.iload 6, 2) := by decide +kernel
theorem dX1_sees_52 : decode cX1_sees 52 = .ok (.aload_n 0, 1) := by decide +kernel
theorem dX1_sees_53 : decode cX1_sees 53 = .ok (.getfield 13, 3) := by decide +kernel
theorem dX1_sees_56 : decode cX1_sees 56 = .ok (.imul, 1) := by decide +kernel
theorem dX1_sees_57 : decode cX1_sees 57 = .ok (.bipush 10, 2) := by decide +kernel
theorem dX1_sees_59 : decode cX1_sees 59 = .ok (.idiv, 1) := by decide +kernel
theorem dX1_sees_60 : decode cX1_sees 60 = .ok (.if_icmp .gt 50, 3) := by decide +kernel
theorem dX1_sees_63 : decode cX1_sees 63 = .ok (.bipush 100, 2) := by decide +kernel
theorem dX1_sees_65 : decode cX1_sees 65 = .ok (.iload 7, 2) := by decide +kernel
theorem dX1_sees_67 : decode cX1_sees 67 = .ok (.imul, 1) := by decide +kernel
theorem dX1_sees_68 : decode cX1_sees 68 = .ok (.aload_n 0, 1) := by decide +kernel
theorem dX1_sees_69 : decode cX1_sees 69 = .ok (.getfield 19, 3) := by decide +kernel
theorem dX1_sees_72 : decode cX1_sees 72 = .ok (.iload 8, 2) := by decide +kernel
theorem dX1_sees_74 : decode cX1_sees 74 = .ok (.imul, 1) := by decide +kernel
theorem dX1_sees_75 : decode cX1_sees 75 = .ok (.isub, 1) := by decide +kernel
theorem dX1_sees_76 : decode cX1_sees 76 = .ok (.invokestatic 28, 3) := by decide +kernel
theorem dX1_sees_79 : decode cX1_sees 79 = .ok (.iload 6, 2) := by decide +kernel
theorem dX1_sees_81 : decode cX1_sees 81 = .ok (.aload_n 0, 1) := by decide +kernel
theorem dX1_sees_82 : decode cX1_sees 82 = .ok (.getfield 16, 3) := by decide +kernel
theorem dX1_sees_85 : decode cX1_sees 85 = .ok (.imul, 1) := by decide +kernel
theorem dX1_sees_86 : decode cX1_sees 86 = .ok (.bipush 10, 2) := by decide +kernel
theorem dX1_sees_88 : decode cX1_sees 88 = .ok (.idiv, 1) := by decide +kernel
theorem dX1_sees_89 : decode cX1_sees 89 = .ok (.if_icmp .gt 21, 3) := by decide +kernel
theorem dX1_sees_92 : decode cX1_sees 92 = .ok (.aload_n 0, 1) := by decide +kernel
theorem dX1_sees_93 : decode cX1_sees 93 = .ok (.aload_n 1, 1) := by decide +kernel
theorem dX1_sees_94 : decode cX1_sees 94 = .ok (.iload_n 2, 1) := by decide +kernel
theorem dX1_sees_95 : decode cX1_sees 95 = .ok (.iload_n 3, 1) := by decide +kernel
theorem dX1_sees_96 : decode cX1_sees 96 = .ok (.iload 4, 2) := by decide +kernel
theorem dX1_sees_98 : decode cX1_sees 98 = .ok (.iload 5, 2) := by decide +kernel
theorem dX1_sees_100 : decode cX1_sees 100 = .ok (.invokevirtual 34, 3) := by decide +kernel
theorem dX1_sees_103 : decode cX1_sees 103 = .ok (.ifCond .eq 7, 3) := by decide +kernel
theorem dX1_sees_106 : decode cX1_sees 106 = .ok (.iconst 1, 1) := by decide +kernel
theorem dX1_sees_107 : decode cX1_sees 107 = .ok (.goto 4, 3) := by decide +kernel
theorem dX1_sees_110 : decode cX1_sees 110 = .ok (.iconst 0, 1) := by decide +kernel
theorem dX1_sees_111 : decode cX1_sees 111 = .ok (.ireturn, 1) := by decide +kernel
set_option maxRecDepth 20000 in
theorem ggX1_isLineFree_X7_heightAt : GoodIn wsX1_isLineFree wsX7_heightAt := goodIn_r _ [13, 14, 23, 24, 25] (by decide +kernel) (by decide +kernel)
set_option maxRecDepth 20000 in
theorem gX1_isLineFree_X7_heightAt : GoodIn wsX1_isLineFree (wsV RX1 22 RX7 yX7_heightAt wsX7_heightAt) := goodIn_app (goodIn_of _ (by decide +kernel)) ggX1_isLineFree_X7_heightAt
set_option maxRecDepth 20000 in
theorem ggX1_isLineFree_J9_floorDiv_7cf53 : GoodIn wsX1_isLineFree wsJ9_floorDiv_7cf53 := goodIn_r _ [18] (by decide +kernel) (by decide +kernel)
set_option maxRecDepth 20000 in
theorem gX1_isLineFree_J9_floorDiv_7cf53 : GoodIn wsX1_isLineFree (va_wsS RX1 41 yJ9_floorDiv_7cf53 wsJ9_floorDiv_7cf53) := goodIn_app (goodIn_of _ (by decide +kernel)) ggX1_isLineFree_J9_floorDiv_7cf53
theorem dX1_isLineFree_0 : decode cX1_isLineFree 0 = .ok (.iload 4, 2) := by decide +kernel
theorem dX1_isLineFree_2 : decode cX1_isLineFree 2 = .ok (.iload_n 2, 1) := by decide +kernel
theorem dX1_isLineFree_3 : decode cX1_isLineFree 3 = .ok (.isub, 1) := by decide +kernel
theorem dX1_isLineFree_4 : decode cX1_isLineFree 4 = .ok (.istore 6, 2) := by decide +kernel
theorem dX1_isLineFree_6 : decode cX1_isLineFree 6 = .ok (.iload 5, 2) := by decide +kernel
theorem dX1_isLineFree_8 : decode cX1_isLineFree 8 = .ok (.iload_n 3, 1) := by decide +kernel
theorem dX1_isLineFree_9 : decode cX1_isLineFree 9 = .ok (.isub, 1) := by decide +kernel
theorem dX1_isLineFree_10 : decode cX1_isLineFree 10 = .ok (.istore 7, 2) := by decide +kernel
theorem dX1_isLineFree_12 : decode cX1_isLineFree 12 = .ok (.iload 6, 2) := by decide +kernel
theorem dX1_isLineFree_14 : decode cX1_isLineFree 14 = .ok (.invokestatic 28, 3) := by decide +kernel
theorem dX1_isLineFree_17 : decode cX1_isLineFree 17 = .ok (.iload 7, 2) := by decide +kernel
theorem dX1_isLineFree_19 : decode cX1_isLineFree 19 = .ok (.invokestatic 28, 3) := by decide +kernel
theorem dX1_isLineFree_22 : decode cX1_isLineFree 22 = .ok (.invokestatic 38, 3) := by decide +kernel
theorem dX1_isLineFree_25 : decode cX1_isLineFree 25 = .ok (.istore 8, 2) := by decide +kernel
theorem dX1_isLineFree_27 : decode cX1_isLineFree 27 = .ok (.iload 8, 2) := by decide +kernel
theorem dX1_isLineFree_29 : decode cX1_isLineFree 29 = .ok (.iconst 2, 1) := by decide +kernel
theorem dX1_isLineFree_30 : decode cX1_isLineFree 30 = .ok (.if_icmp .ge 5, 3) := by decide +kernel
theorem dX1_isLineFree_33 : decode cX1_isLineFree 33 = .ok (.iconst 1, 1) := by decide +kernel
theorem dX1_isLineFree_34 : decode cX1_isLineFree 34 = .ok (.ireturn, 1) := by decide +kernel
theorem dX1_isLineFree_35 : decode cX1_isLineFree 35 = .ok (.aload_n 1, 1) := by decide +kernel
theorem dX1_isLineFree_36 : decode cX1_isLineFree 36 = .ok (.iload 4, 2) := by decide +kernel
theorem dX1_isLineFree_38 : decode cX1_isLineFree 38 = .ok (.iload 5, 2) := by decide +kernel
theorem dX1_isLineFree_40 : decode cX1_isLineFree 40 = .ok (.invokevirtual 22, 3) := by decide +kernel
theorem dX1_isLineFree_43 : decode cX1_isLineFree 43 = .ok (.aload_n 0, 1) := by decide +kernel
theorem dX1_isLineFree_44 : decode cX1_isLineFree 44 = .ok (.getfield 7, 3) := by decide +kernel
theorem dX1_isLineFree_47 : decode cX1_isLineFree 47 = .ok (.isub, 1) := by decide +kernel
theorem dX1_isLineFree_48 : decode cX1_isLineFree 48 = .ok (.istore 9, 2) := by decide +kernel
theorem dX1_isLineFree_50 : decode cX1_isLineFree 50 = .ok (.iconst 1, 1) := by decide +kernel
theorem dX1_isLineFree_51 : decode cX1_isLineFree 51 = .ok (.istore 10, 2) := by decide +kernel
theorem dX1_isLineFree_53 : decode cX1_isLineFree 53 = .ok (.iload 10, 2) := by decide +kernel
theorem dX1_isLineFree_55 : decode cX1_isLineFree 55 = .ok (.iload 8, 2) := by decide +kernel
theorem dX1_isLineFree_57 : decode cX1_isLineFree 57 = .ok (.if_icmp .ge 84, 3) := by decide +kernel
theorem dX1_isLineFree_60 : decode cX1_isLineFree 60 = .ok (.iload_n 2, 1) := by decide +kernel
theorem dX1_isLineFree_61 : decode cX1_isLineFree 61 = .ok (.iconst 2, 1) := by decide +kernel
theorem dX1_isLineFree_62 : decode cX1_isLineFree 62 = .ok (.iload 10, 2) := by decide +kernel
theorem dX1_isLineFree_64 : decode cX1_isLineFree 64 = .ok (.imul, 1) := by decide +kernel
theorem dX1_isLineFree_65 : decode cX1_isLineFree 65 = .ok (.iload 6, 2) := by decide +kernel
theorem dX1_isLineFree_67 : decode cX1_isLineFree 67 = .ok (.imul, 1) := by decide +kernel
theorem dX1_isLineFree_68 : decode cX1_isLineFree 68 = .ok (.iload 8, 2) := by decide +kernel
theorem dX1_isLineFree_70 : decode cX1_isLineFree 70 = .ok (.iadd, 1) := by decide +kernel
theorem dX1_isLineFree_71 : decode cX1_isLineFree 71 = .ok (.iconst 2, 1) := by decide +kernel
theorem dX1_isLineFree_72 : decode cX1_isLineFree 72 = .ok (.iload 8, 2) := by decide +kernel
theorem dX1_isLineFree_74 : decode cX1_isLineFree 74 = .ok (.imul, 1) := by decide +kernel
theorem dX1_isLineFree_75 : decode cX1_isLineFree 75 = .ok (.invokestatic 41, 3) := by decide +kernel
theorem dX1_isLineFree_78 : decode cX1_isLineFree 78 = .ok (.iadd, 1) := by decide +kernel
theorem dX1_isLineFree_79 : decode cX1_isLineFree 79 = .ok (.istore 11, 2) := by decide +kernel
theorem dX1_isLineFree_81 : decode cX1_isLineFree 81 = .ok (.iload_n 3, 1) := by decide +kernel
theorem dX1_isLineFree_82 : decode cX1_isLineFree 82 = .ok (.iconst 2, 1) := by decide +kernel
theorem dX1_isLineFree_83 : decode cX1_isLineFree 83 = .ok (.iload 10, 2) := by decide +kernel
theorem dX1_isLineFree_85 : decode cX1_isLineFree 85 = .ok (.imul, 1) := by decide +kernel
theorem dX1_isLineFree_86 : decode cX1_isLineFree 86 = .ok (.iload 7, 2) := by decide +kernel
theorem dX1_isLineFree_88 : decode cX1_isLineFree 88 = .ok (.imul, 1) := by decide +kernel
theorem dX1_isLineFree_89 : decode cX1_isLineFree 89 = .ok (.iload 8, 2) := by decide +kernel
theorem dX1_isLineFree_91 : decode cX1_isLineFree 91 = .ok (.iadd, 1) := by decide +kernel
theorem dX1_isLineFree_92 : decode cX1_isLineFree 92 = .ok (.iconst 2, 1) := by decide +kernel
theorem dX1_isLineFree_93 : decode cX1_isLineFree 93 = .ok (.iload 8, 2) := by decide +kernel
theorem dX1_isLineFree_95 : decode cX1_isLineFree 95 = .ok (.imul, 1) := by decide +kernel
theorem dX1_isLineFree_96 : decode cX1_isLineFree 96 = .ok (.invokestatic 41, 3) := by decide +kernel
theorem dX1_isLineFree_99 : decode cX1_isLineFree 99 = .ok (.iadd, 1) := by decide +kernel
theorem dX1_isLineFree_100 : decode cX1_isLineFree 100 = .ok (.istore 12, 2) := by decide +kernel
theorem dX1_isLineFree_102 : decode cX1_isLineFree 102 = .ok (.aload_n 1, 1) := by decide +kernel
theorem dX1_isLineFree_103 : decode cX1_isLineFree 103 = .ok (.iload 11, 2) := by decide +kernel
theorem dX1_isLineFree_105 : decode cX1_isLineFree 105 = .ok (.iload 12, 2) := by decide +kernel
theorem dX1_isLineFree_107 : decode cX1_isLineFree 107 = .ok (.invokevirtual 22, 3) := by decide +kernel
theorem dX1_isLineFree_110 : decode cX1_isLineFree 110 = .ok (.istore 13, 2) := by decide +kernel
theorem dX1_isLineFree_112 : decode cX1_isLineFree 112 = .ok (.iload 13, 2) := by decide +kernel
theorem dX1_isLineFree_114 : decode cX1_isLineFree 114 = .ok (.iload 8, 2) := by decide +kernel
theorem dX1_isLineFree_116 : decode cX1_isLineFree 116 = .ok (.imul, 1) := by decide +kernel
theorem dX1_isLineFree_117 : decode cX1_isLineFree 117 = .ok (.aload_n 0, 1) := by decide +kernel
theorem dX1_isLineFree_118 : decode cX1_isLineFree 118 = .ok (.getfield 7, 3) := by decide +kernel
theorem dX1_isLineFree_121 : decode cX1_isLineFree 121 = .ok (.iload 8, 2) := by decide +kernel
theorem dX1_isLineFree_123 : decode cX1_isLineFree 123 = .ok (.imul, 1) := by decide +kernel
theorem dX1_isLineFree_124 : decode cX1_isLineFree 124 = .ok (.iload 9, 2) := by decide +kernel
theorem dX1_isLineFree_126 : decode cX1_isLineFree 126 = .ok (.iload 10, 2) := by decide +kernel
theorem dX1_isLineFree_128 : decode cX1_isLineFree 128 = .ok (.imul, 1) := by decide +kernel
theorem dX1_isLineFree_129 : decode cX1_isLineFree 129 = .ok (.iadd, 1) := by decide +kernel
theorem dX1_isLineFree_130 : decode cX1_isLineFree 130 = .ok (.if_icmp .le 5, 3) := by decide +kernel
theorem dX1_isLineFree_133 : decode cX1_isLineFree 133 = .ok (.iconst 0, 1) := by decide +kernel
theorem dX1_isLineFree_134 : decode cX1_isLineFree 134 = .ok (.ireturn, 1) := by decide +kernel
theorem dX1_isLineFree_135 : decode cX1_isLineFree 135 = .ok (.iinc 10 1, 3) := by decide +kernel
theorem dX1_isLineFree_138 : decode cX1_isLineFree 138 = .ok (.goto (-85), 3) := by decide +kernel
theorem dX1_isLineFree_141 : decode cX1_isLineFree 141 = .ok (.iconst 1, 1) := by decide +kernel
theorem dX1_isLineFree_142 : decode cX1_isLineFree 142 = .ok (.ireturn, 1) := by decide +kernel
theorem dX2_init_0 : decode cX2_init 0 = .ok (.aload_n 0, 1) := by decide +kernel
theorem dX2_init_1 : decode cX2_init 1 = .ok (.invokespecial 1, 3) := by decide +kernel
theorem dX2_init_4 : decode cX2_init 4 = .ok (.return_, 1) := by decide +kernel
theorem dX2_clear_0 : decode cX2_clear 0 = .ok (.aload_n 0, 1) := by decide +kernel
theorem dX2_clear_1 : decode cX2_clear 1 = .ok (.iconst 0, 1) := by decide +kernel
theorem dX2_clear_2 : decode cX2_clear 2 = .ok (.putfield 7, 3) := by decide +kernel
theorem dX2_clear_5 : decode cX2_clear 5 = .ok (.aload_n 0, 1) := by decide +kernel
theorem dX2_clear_6 : decode cX2_clear 6 = .ok (.iconst 0, 1) := by decide +kernel
theorem dX2_clear_7 : decode cX2_clear 7 = .ok (.putfield 13, 3) := by decide +kernel
theorem dX2_clear_10 : decode cX2_clear 10 = .ok (.aload_n 0, 1) := by decide +kernel
theorem dX2_clear_11 : decode cX2_clear 11 = .ok (.iconst 0, 1) := by decide +kernel
theorem dX2_clear_12 : decode cX2_clear 12 = .ok (.putfield 16, 3) := by decide +kernel
theorem dX2_clear_15 : decode cX2_clear 15 = .ok (.return_, 1) := by decide +kernel
theorem dX2_countCell_0 : decode cX2_countCell 0 = .ok (.aload_n 0, 1) := by decide +kernel
theorem dX2_countCell_1 : decode cX2_countCell 1 = .ok (.dup, 1) := by decide +kernel
theorem dX2_countCell_2 : decode cX2_countCell 2 = .ok (.getfield 7, 3) := by decide +kernel
theorem dX2_countCell_5 : decode cX2_countCell 5 = .ok (.iload_n 1, 1) := by decide +kernel
theorem dX2_countCell_6 : decode cX2_countCell 6 = .ok (.ifCond .eq 7, 3) := by decide +kernel
theorem dX2_countCell_9 : decode cX2_countCell 9 = .ok (.iconst 1, 1) := by decide +kernel
theorem dX2_countCell_10 : decode cX2_countCell 10 = .ok (.goto 4, 3) := by decide +kernel
theorem dX2_countCell_13 : decode cX2_countCell 13 = .ok (.iconst 0, 1) := by decide +kernel
theorem dX2_countCell_14 : decode cX2_countCell 14 = .ok (.iadd, 1) := by decide +kernel
theorem dX2_countCell_15 : decode cX2_countCell 15 = .ok (.putfield 7, 3) := by decide +kernel
theorem dX2_countCell_18 : decode cX2_countCell 18 = .ok (.aload_n 0, 1) := by decide +kernel
theorem dX2_countCell_19 : decode cX2_countCell 19 = .ok (.dup, 1) := by decide +kernel
theorem dX2_countCell_20 : decode cX2_countCell 20 = .ok (.getfield 13, 3) := by decide +kernel
theorem dX2_countCell_23 : decode cX2_countCell 23 = .ok (.iload_n 2, 1) := by decide +kernel
theorem dX2_countCell_24 : decode cX2_countCell 24 = .ok (.ifCond .eq 7, 3) := by decide +kernel
theorem dX2_countCell_27 : decode cX2_countCell 27 = .ok (.iconst 1, 1) := by decide +kernel
theorem dX2_countCell_28 : decode cX2_countCell 28 = .ok (.goto 4, 3) := by decide +kernel
theorem dX2_countCell_31 : decode cX2_countCell 31 = .ok (.iconst 0, 1) := by decide +kernel
theorem dX2_countCell_32 : decode cX2_countCell 32 = .ok (.iadd, 1) := by decide +kernel
theorem dX2_countCell_33 : decode cX2_countCell 33 = .ok (.putfield 13, 3) := by decide +kernel
theorem dX2_countCell_36 : decode cX2_countCell 36 = .ok (.aload_n 0, 1) := by decide +kernel
theorem dX2_countCell_37 : decode cX2_countCell 37 = .ok (.dup, 1) := by decide +kernel
theorem dX2_countCell_38 : decode cX2_countCell 38 = .ok (.getfield 16, 3) := by decide +kernel
theorem dX2_countCell_41 : decode cX2_countCell 41 = .ok (.iload_n 1, 1) := by decide +kernel
theorem dX2_countCell_42 : decode cX2_countCell 42 = .ok (.ifCond .eq 11, 3) := by decide +kernel
theorem dX2_countCell_45 : decode cX2_countCell 45 = .ok (.iload_n 2, 1) := by decide +kernel
theorem dX2_countCell_46 : decode cX2_countCell 46 = .ok (.ifCond .eq 7, 3) := by decide +kernel
theorem dX2_countCell_49 : decode cX2_countCell 49 = .ok (.iconst 1, 1) := by decide +kernel
theorem dX2_countCell_50 : decode cX2_countCell 50 = .ok (.goto 4, 3) := by decide +kernel
theorem dX2_countCell_53 : decode cX2_countCell 53 = .ok (.iconst 0, 1) := by decide +kernel
theorem dX2_countCell_54 : decode cX2_countCell 54 = .ok (.iadd, 1) := by decide +kernel
theorem dX2_countCell_55 : decode cX2_countCell 55 = .ok (.putfield 16, 3) := by decide +kernel
theorem dX2_countCell_58 : decode cX2_countCell 58 = .ok (.return_, 1) := by decide +kernel
set_option maxRecDepth 20000 in
theorem ggX2_percent_X8_quotient : GoodIn wsX2_percent wsX8_quotient := goodIn_r _ [10] (by decide +kernel) (by decide +kernel)
set_option maxRecDepth 20000 in
theorem gX2_percent_X8_quotient_n25 : GoodIn wsX2_percent (wsX8_quotient) := ggX2_percent_X8_quotient
theorem dX2_percent_0 : decode cX2_percent 0 = .ok (.aload_n 0, 1) := by decide +kernel
theorem dX2_percent_1 : decode cX2_percent 1 = .ok (.getfield 16, 3) := by decide +kernel
theorem dX2_percent_4 : decode cX2_percent 4 = .ok (.bipush 100, 2) := by decide +kernel
theorem dX2_percent_6 : decode cX2_percent 6 = .ok (.imul, 1) := by decide +kernel
theorem dX2_percent_7 : decode cX2_percent 7 = .ok (.aload_n 0, 1) := by decide +kernel
theorem dX2_percent_8 : decode cX2_percent 8 = .ok (.getfield 7, 3) := by decide +kernel
theorem dX2_percent_11 : decode cX2_percent 11 = .ok (.aload_n 0, 1) := by decide +kernel
theorem dX2_percent_12 : decode cX2_percent 12 = .ok (.getfield 13, 3) := by decide +kernel
theorem dX2_percent_15 : decode cX2_percent 15 = .ok (.invokestatic 19, 3) := by decide +kernel
theorem dX2_percent_18 : decode cX2_percent 18 = .ok (.invokestatic 25, 3) := by decide +kernel
theorem dX2_percent_21 : decode cX2_percent 21 = .ok (.ireturn, 1) := by decide +kernel
set_option maxRecDepth 20000 in
theorem ggX3_init_X6_init : GoodIn wsX3_init wsX6_init := goodIn_r _ [10, 11, 2, 3, 12, 13, 14, 15, 16, 17, 18, 19, 20, 25, 26, 27, 28] (by decide +kernel) (by decide +kernel)
set_option maxRecDepth 20000 in
theorem gX3_init_X6_init : GoodIn wsX3_init (wsX6_init) := ggX3_init_X6_init
theorem dX3_init_0 : decode cX3_init 0 = .ok (.aload_n 0, 1) := by decide +kernel
theorem dX3_init_1 : decode cX3_init 1 = .ok (.invokespecial 1, 3) := by decide +kernel
theorem dX3_init_4 : decode cX3_init 4 = .ok (.aload_n 0, 1) := by decide +kernel
theorem dX3_init_5 : decode cX3_init 5 = .ok (.new 7, 3) := by decide +kernel
theorem dX3_init_8 : decode cX3_init 8 = .ok (.dup, 1) := by decide +kernel
theorem dX3_init_9 : decode cX3_init 9 = .ok (.invokespecial 9, 3) := by decide +kernel
theorem dX3_init_12 : decode cX3_init 12 = .ok (.putfield 10, 3) := by decide +kernel
theorem dX3_init_15 : decode cX3_init 15 = .ok (.return_, 1) := by decide +kernel
set_option maxRecDepth 20000 in
theorem ggX3_search_X6_layOut : GoodIn wsX3_search wsX6_layOut := goodIn_r _ [11, 12, 13, 14, 15, 16, 17, 18, 19, 20, 10, 21, 22, 23, 24, 25, 26, 27, 28, 29, 30, 31, 32, 33, 34, 35, 36, 37, 38, 39, 95, 96, 97, 102, 103, 104, 105, 106, 107] (by decide +kernel) (by decide +kernel)
set_option maxRecDepth 20000 in
theorem gX3_search_X6_layOut : GoodIn wsX3_search (wsV RX3 25 RX6 yX6_layOut wsX6_layOut) := goodIn_app (goodIn_of _ (by decide +kernel)) ggX3_search_X6_layOut
set_option maxRecDepth 20000 in
theorem ggX3_search_X6_photoTotal : GoodIn wsX3_search wsX6_photoTotal := goodIn_r _ [43, 22, 44, 45, 46, 10, 47, 27, 28, 29, 30, 13, 48, 49, 50, 34, 51, 38, 37, 39, 15, 16, 17, 102, 103, 104, 105, 106, 107] (by decide +kernel) (by decide +kernel)
set_option maxRecDepth 20000 in
theorem gX3_search_X6_photoTotal : GoodIn wsX3_search (wsV RX3 29 RX6 yX6_photoTotal wsX6_photoTotal) := goodIn_app (goodIn_of _ (by decide +kernel)) ggX3_search_X6_photoTotal
set_option maxRecDepth 20000 in
theorem ggX3_search_X6_leavesGap : GoodIn wsX3_search wsX6_leavesGap := goodIn_r _ [55, 12, 14, 56, 57, 58, 10, 59, 22, 60, 44, 45, 46, 47, 27, 28, 29, 30, 13, 48, 49, 50, 34, 51, 38, 37, 39, 15, 16, 17, 61, 62, 63, 64, 65, 66, 67, 68, 69, 70, 71, 72, 73, 74, 75, 76, 77, 78, 79, 80, 81, 82, 83, 84, 85, 86, 87, 88, 89, 90, 91, 92, 93, 94, 95, 96, 97, 102, 103, 104, 105, 106, 107, 108, 109, 110, 111] (by decide +kernel) (by decide +kernel)
set_option maxRecDepth 20000 in
theorem gX3_search_X6_leavesGap : GoodIn wsX3_search (wsV RX3 36 RX6 yX6_leavesGap wsX6_leavesGap) := goodIn_app (goodIn_of _ (by decide +kernel)) ggX3_search_X6_leavesGap
theorem dX3_search_0 : decode cX3_search 0 = .ok (.iconst 0, 1) := by decide +kernel
theorem dX3_search_1 : decode cX3_search 1 = .ok (.istore 4, 2) := by decide +kernel
theorem dX3_search_3 : decode cX3_search 3 = .ok (.aload_n 1, 1) := by decide +kernel
theorem dX3_search_4 : decode cX3_search 4 = .ok (.getfield 16, 3) := by decide +kernel
theorem dX3_search_7 : decode cX3_search 7 = .ok (.istore 5, 2) := by decide +kernel
theorem dX3_search_9 : decode cX3_search 9 = .ok (.iload 5, 2) := by decide +kernel
theorem dX3_search_11 : decode cX3_search 11 = .ok (.iconst 1, 1) := by decide +kernel
theorem dX3_search_12 : decode cX3_search 12 = .ok (.if_icmp .lt 100, 3) := by decide +kernel
theorem dX3_search_15 : decode cX3_search 15 = .ok (.aload_n 1, 1) := by decide +kernel
theorem dX3_search_16 : decode cX3_search 16 = .ok (.getfield 22, 3) := by decide +kernel
theorem dX3_search_19 : decode cX3_search 19 = .ok (.istore 6, 2) := by decide +kernel
theorem dX3_search_21 : decode cX3_search 21 = .ok (.iload 6, 2) := by decide +kernel
theorem dX3_search_23 : decode cX3_search 23 = .ok (.iconst 1, 1) := by decide +kernel
theorem dX3_search_24 : decode cX3_search 24 = .ok (.if_icmp .lt 82, 3) := by decide +kernel
theorem dX3_search_27 : decode cX3_search 27 = .ok (.aload_n 0, 1) := by decide +kernel
theorem dX3_search_28 : decode cX3_search 28 = .ok (.getfield 10, 3) := by decide +kernel
theorem dX3_search_31 : decode cX3_search 31 = .ok (.aload_n 1, 1) := by decide +kernel
theorem dX3_search_32 : decode cX3_search 32 = .ok (.iload 5, 2) := by decide +kernel
theorem dX3_search_34 : decode cX3_search 34 = .ok (.iload 6, 2) := by decide +kernel
theorem dX3_search_36 : decode cX3_search 36 = .ok (.invokevirtual 25, 3) := by decide +kernel
theorem dX3_search_39 : decode cX3_search 39 = .ok (.ifCond .eq 61, 3) := by decide +kernel
theorem dX3_search_42 : decode cX3_search 42 = .ok (.iload 4, 2) := by decide +kernel
theorem dX3_search_44 : decode cX3_search 44 = .ok (.ifCond .eq 17, 3) := by decide +kernel
theorem dX3_search_47 : decode cX3_search 47 = .ok (.aload_n 0, 1) := by decide +kernel
theorem dX3_search_48 : decode cX3_search 48 = .ok (.getfield 10, 3) := by decide +kernel
theorem dX3_search_51 : decode cX3_search 51 = .ok (.invokevirtual 29, 3) := by decide +kernel
theorem dX3_search_54 : decode cX3_search 54 = .ok (.aload_n 0, 1) := by decide +kernel
theorem dX3_search_55 : decode cX3_search 55 = .ok (.getfield 33, 3) := by decide +kernel
theorem dX3_search_58 : decode cX3_search 58 = .ok (.if_icmp .ge 42, 3) := by decide +kernel
theorem dX3_search_61 : decode cX3_search 61 = .ok (.aload_n 0, 1) := by decide +kernel
theorem dX3_search_62 : decode cX3_search 62 = .ok (.getfield 10, 3) := by decide +kernel
theorem dX3_search_65 : decode cX3_search 65 = .ok (.aload_n 1, 1) := by decide +kernel
theorem dX3_search_66 : decode cX3_search 66 = .ok (.aload_n 2, 1) := by decide +kernel
theorem dX3_search_67 : decode cX3_search 67 = .ok (.iload_n 3, 1) := by decide +kernel
theorem dX3_search_68 : decode cX3_search 68 = .ok (.invokevirtual 36, 3) := by decide +kernel
theorem dX3_search_71 : decode cX3_search 71 = .ok (.ifCond .ne 29, 3) := by decide +kernel
theorem dX3_search_74 : decode cX3_search 74 = .ok (.iconst 1, 1) := by decide +kernel
theorem dX3_search_75 : decode cX3_search 75 = .ok (.istore 4, 2) := by decide +kernel
theorem dX3_search_77 : decode cX3_search 77 = .ok (.aload_n 0, 1) := by decide +kernel
theorem dX3_search_78 : decode cX3_search 78 = .ok (.iload 5, 2) := by decide +kernel
theorem dX3_search_80 : decode cX3_search 80 = .ok (.putfield 40, 3) := by decide +kernel
theorem dX3_search_83 : decode cX3_search 83 = .ok (.aload_n 0, 1) := by decide +kernel
theorem dX3_search_84 : decode cX3_search 84 = .ok (.iload 6, 2) := by decide +kernel
theorem dX3_search_86 : decode cX3_search 86 = .ok (.putfield 43, 3) := by decide +kernel
theorem dX3_search_89 : decode cX3_search 89 = .ok (.aload_n 0, 1) := by decide +kernel
theorem dX3_search_90 : decode cX3_search 90 = .ok (.aload_n 0, 1) := by decide +kernel
theorem dX3_search_91 : decode cX3_search 91 = .ok (.getfield 10, 3) := by decide +kernel
theorem dX3_search_94 : decode cX3_search 94 = .ok (.invokevirtual 29, 3) := by decide +kernel
theorem dX3_search_97 : decode cX3_search 97 = .ok (.putfield 33, 3) := by decide +kernel
theorem dX3_search_100 : decode cX3_search 100 = .ok (.iinc 6 (-1), 3) := by decide +kernel
theorem dX3_search_103 : decode cX3_search 103 = .ok (.goto (-82), 3) := by decide +kernel
theorem dX3_search_106 : decode cX3_search 106 = .ok (.iinc 5 (-1), 3) := by decide +kernel
theorem dX3_search_109 : decode cX3_search 109 = .ok (.goto (-100), 3) := by decide +kernel
theorem dX3_search_112 : decode cX3_search 112 = .ok (.iload 4, 2) := by decide +kernel
theorem dX3_search_114 : decode cX3_search 114 = .ok (.ireturn, 1) := by decide +kernel
theorem dX4_init_0 : decode cX4_init 0 = .ok (.aload_n 0, 1) := by decide +kernel
theorem dX4_init_1 : decode cX4_init 1 = .ok (.invokespecial 3, 3) := by decide +kernel
theorem dX4_init_4 : decode cX4_init 4 = .ok (.aload_n 0, 1) := by decide +kernel
theorem dX4_init_5 : decode cX4_init 5 = .ok (.sipush 4096, 3) := by decide +kernel
theorem dX4_init_8 : decode cX4_init 8 = .ok (.newarray .int, 2) := by decide +kernel
theorem dX4_init_10 : decode cX4_init 10 = .ok (.putfield 11, 3) := by decide +kernel
theorem dX4_init_13 : decode cX4_init 13 = .ok (.return_, 1) := by decide +kernel
set_option maxRecDepth 20000 in
theorem ggX4_fastestTime_X4_fillTimes : GoodIn wsX4_fastestTime wsX4_fillTimes := goodIn_r _ [7, 1, 8, 2, 9, 10, 11, 12, 13, 14, 15, 16, 17, 18, 19, 20, 21, 6, 22, 23, 24, 25, 26, 27, 28, 29, 30, 31, 32, 33, 34, 35, 36, 37, 38, 39, 40, 41, 42, 43, 44, 45, 46, 47, 48, 49, 50, 51, 52, 53, 54, 55, 56, 57, 58, 59, 60, 61, 62, 63, 64, 65, 66, 67, 68, 69, 70, 71, 72, 73, 74, 78, 79, 80, 81, 75, 76, 77, 82, 83, 84] (by decide +kernel) (by decide +kernel)
set_option maxRecDepth 20000 in
theorem gX4_fastestTime_X4_fillTimes : GoodIn wsX4_fastestTime (wsV RX4 15 RX4 yX4_fillTimes wsX4_fillTimes) := goodIn_app (goodIn_of _ (by decide +kernel)) ggX4_fastestTime_X4_fillTimes
set_option maxRecDepth 20000 in
theorem ggX4_fastestTime_X4_choose : GoodIn wsX4_fastestTime wsX4_choose := goodIn_r _ [36, 37, 2, 1, 9, 10, 11, 12, 13, 14, 15, 16, 17, 18, 19, 20, 21, 6, 22, 23, 24, 25, 38, 39, 40, 41, 42, 43, 44, 45, 46, 47, 48, 49, 50, 51, 52, 29, 53, 32, 31, 54, 55, 56, 57, 58, 59, 60, 61, 62, 63, 64, 65, 66, 67, 68, 75, 76, 77, 73, 74, 78, 79, 80, 81, 82, 83, 84] (by decide +kernel) (by decide +kernel)
set_option maxRecDepth 20000 in
theorem gX4_fastestTime_X4_choose : GoodIn wsX4_fastestTime (wsV RX4 25 RX4 yX4_choose wsX4_choose) := goodIn_app (goodIn_of _ (by decide +kernel)) ggX4_fastestTime_X4_choose
theorem dX4_fastestTime_0 : decode cX4_fastestTime 0 = .ok (.aload_n 0, 1) := by decide +kernel
theorem dX4_fastestTime_1 : decode cX4_fastestTime 1 = .ok (.aload_n 1, 1) := by decide +kernel
theorem dX4_fastestTime_2 : decode cX4_fastestTime 2 = .ok (.aload_n 2, 1) := by decide +kernel
theorem dX4_fastestTime_3 : decode cX4_fastestTime 3 = .ok (.invokevirtual 15, 3) := by decide +kernel
theorem dX4_fastestTime_6 : decode cX4_fastestTime 6 = .ok (.aload_n 0, 1) := by decide +kernel
theorem dX4_fastestTime_7 : decode cX4_fastestTime 7 = .ok (.aload_n 1, 1) := by decide +kernel
theorem dX4_fastestTime_8 : decode cX4_fastestTime 8 = .ok (.aload_n 2, 1) := by decide +kernel
theorem dX4_fastestTime_9 : decode cX4_fastestTime 9 = .ok (.iconst 1, 1) := by decide +kernel
theorem dX4_fastestTime_10 : decode cX4_fastestTime 10 = .ok (.aload_n 1, 1) := by decide +kernel
theorem dX4_fastestTime_11 : decode cX4_fastestTime 11 = .ok (.getfield 19, 3) := by decide +kernel
theorem dX4_fastestTime_14 : decode cX4_fastestTime 14 = .ok (.ishl, 1) := by decide +kernel
theorem dX4_fastestTime_15 : decode cX4_fastestTime 15 = .ok (.iconst 1, 1) := by decide +kernel
theorem dX4_fastestTime_16 : decode cX4_fastestTime 16 = .ok (.isub, 1) := by decide +kernel
theorem dX4_fastestTime_17 : decode cX4_fastestTime 17 = .ok (.iload_n 3, 1) := by decide +kernel
theorem dX4_fastestTime_18 : decode cX4_fastestTime 18 = .ok (.iload 4, 2) := by decide +kernel
theorem dX4_fastestTime_20 : decode cX4_fastestTime 20 = .ok (.invokevirtual 25, 3) := by decide +kernel
theorem dX4_fastestTime_23 : decode cX4_fastestTime 23 = .ok (.aload_n 0, 1) := by decide +kernel
theorem dX4_fastestTime_24 : decode cX4_fastestTime 24 = .ok (.getfield 29, 3) := by decide +kernel
theorem dX4_fastestTime_27 : decode cX4_fastestTime 27 = .ok (.ireturn, 1) := by decide +kernel
set_option maxRecDepth 20000 in
theorem ggX4_fastestStep_X4_fillTimes : GoodIn wsX4_fastestStep wsX4_fillTimes := goodIn_r _ [8, 1, 3, 9, 10, 11, 12, 13, 14, 15, 16, 17, 18, 19, 20, 21, 22, 7, 23, 24, 25, 26, 27, 28, 29, 30, 31, 32, 33, 34, 35, 36, 37, 2, 38, 39, 40, 41, 42, 43, 44, 45, 46, 47, 48, 49, 50, 51, 52, 53, 54, 55, 56, 57, 58, 59, 60, 61, 62, 63, 64, 65, 66, 67, 68, 69, 70, 71, 72, 73, 74, 78, 79, 80, 81, 75, 76, 77, 82, 83, 84] (by decide +kernel) (by decide +kernel)
set_option maxRecDepth 20000 in
theorem gX4_fastestStep_X4_fillTimes : GoodIn wsX4_fastestStep (wsV RX4 15 RX4 yX4_fillTimes wsX4_fillTimes) := goodIn_app (goodIn_of _ (by decide +kernel)) ggX4_fastestStep_X4_fillTimes
set_option maxRecDepth 20000 in
theorem ggX4_fastestStep_X4_choose : GoodIn wsX4_fastestStep wsX4_choose := goodIn_r _ [37, 2, 9, 1, 10, 11, 12, 13, 14, 15, 16, 17, 18, 19, 20, 21, 22, 7, 23, 24, 25, 26, 38, 39, 40, 41, 42, 43, 44, 45, 46, 47, 48, 49, 50, 51, 52, 30, 53, 33, 32, 54, 55, 56, 57, 58, 59, 60, 61, 62, 63, 64, 65, 66, 67, 68, 75, 76, 77, 73, 74, 78, 79, 80, 81, 82, 83, 84] (by decide +kernel) (by decide +kernel)
set_option maxRecDepth 20000 in
theorem gX4_fastestStep_X4_choose : GoodIn wsX4_fastestStep (wsV RX4 25 RX4 yX4_choose wsX4_choose) := goodIn_app (goodIn_of _ (by decide +kernel)) ggX4_fastestStep_X4_choose
set_option maxRecDepth 20000 in
theorem ggX4_fastestStep_X6_find : GoodIn wsX4_fastestStep wsX6_find := goodIn_r _ [14, 15, 16, 17, 18, 13, 19, 20, 73, 74] (by decide +kernel) (by decide +kernel)
set_option maxRecDepth 20000 in
theorem gX4_fastestStep_X6_find : GoodIn wsX4_fastestStep (wsV RX4 35 RX6 yX6_find wsX6_find) := goodIn_app (goodIn_of _ (by decide +kernel)) ggX4_fastestStep_X6_find
set_option maxRecDepth 20000 in
theorem ggX4_fastestStep_X4_isEastbound : GoodIn wsX4_fastestStep wsX4_isEastbound := goodIn_r _ [26] (by decide +kernel) (by decide +kernel)
set_option maxRecDepth 20000 in
theorem gX4_fastestStep_X4_isEastbound : GoodIn wsX4_fastestStep (va_wsS RX4 39 yX4_isEastbound wsX4_isEastbound) := goodIn_app (goodIn_of _ (by decide +kernel)) ggX4_fastestStep_X4_isEastbound
set_option maxRecDepth 20000 in
theorem ggX4_fastestStep_X5_exitColumn : GoodIn wsX4_fastestStep wsX5_exitColumn := goodIn_r _ [31, 32, 33, 78, 79, 80, 81] (by decide +kernel) (by decide +kernel)
set_option maxRecDepth 20000 in
theorem gX4_fastestStep_X5_exitColumn : GoodIn wsX4_fastestStep (wsV RX4 43 RX5 yX5_exitColumn wsX5_exitColumn) := goodIn_app (goodIn_of _ (by decide +kernel)) ggX4_fastestStep_X5_exitColumn
theorem dX4_fastestStep_0 : decode cX4_fastestStep 0 = .ok (.aload_n 0, 1) := by decide +kernel
theorem dX4_fastestStep_1 : decode cX4_fastestStep 1 = .ok (.aload_n 1, 1) := by decide +kernel
theorem dX4_fastestStep_2 : decode cX4_fastestStep 2 = .ok (.aload_n 2, 1) := by decide +kernel
theorem dX4_fastestStep_3 : decode cX4_fastestStep 3 = .ok (.invokevirtual 15, 3) := by decide +kernel
theorem dX4_fastestStep_6 : decode cX4_fastestStep 6 = .ok (.iconst 1, 1) := by decide +kernel
theorem dX4_fastestStep_7 : decode cX4_fastestStep 7 = .ok (.aload_n 1, 1) := by decide +kernel
theorem dX4_fastestStep_8 : decode cX4_fastestStep 8 = .ok (.getfield 19, 3) := by decide +kernel
theorem dX4_fastestStep_11 : decode cX4_fastestStep 11 = .ok (.ishl, 1) := by decide +kernel
theorem dX4_fastestStep_12 : decode cX4_fastestStep 12 = .ok (.iconst 1, 1) := by decide +kernel
theorem dX4_fastestStep_13 : decode cX4_fastestStep 13 = .ok (.isub, 1) := by decide +kernel
theorem dX4_fastestStep_14 : decode cX4_fastestStep 14 = .ok (.istore 6, 2) := by decide +kernel
theorem dX4_fastestStep_16 : decode cX4_fastestStep 16 = .ok (.aload_n 0, 1) := by decide +kernel
theorem dX4_fastestStep_17 : decode cX4_fastestStep 17 = .ok (.aload_n 1, 1) := by decide +kernel
theorem dX4_fastestStep_18 : decode cX4_fastestStep 18 = .ok (.aload_n 2, 1) := by decide +kernel
theorem dX4_fastestStep_19 : decode cX4_fastestStep 19 = .ok (.iload 6, 2) := by decide +kernel
theorem dX4_fastestStep_21 : decode cX4_fastestStep 21 = .ok (.iload_n 3, 1) := by decide +kernel
theorem dX4_fastestStep_22 : decode cX4_fastestStep 22 = .ok (.iload 4, 2) := by decide +kernel
theorem dX4_fastestStep_24 : decode cX4_fastestStep 24 = .ok (.invokevirtual 25, 3) := by decide +kernel
theorem dX4_fastestStep_27 : decode cX4_fastestStep 27 = .ok (.iconst 0, 1) := by decide +kernel
theorem dX4_fastestStep_28 : decode cX4_fastestStep 28 = .ok (.istore 7, 2) := by decide +kernel
theorem dX4_fastestStep_30 : decode cX4_fastestStep 30 = .ok (.iload 7, 2) := by decide +kernel
theorem dX4_fastestStep_32 : decode cX4_fastestStep 32 = .ok (.iload 5, 2) := by decide +kernel
theorem dX4_fastestStep_34 : decode cX4_fastestStep 34 = .ok (.if_icmp .ge 80, 3) := by decide +kernel
theorem dX4_fastestStep_37 : decode cX4_fastestStep 37 = .ok (.iload 7, 2) := by decide +kernel
theorem dX4_fastestStep_39 : decode cX4_fastestStep 39 = .ok (.bipush 8, 2) := by decide +kernel
theorem dX4_fastestStep_41 : decode cX4_fastestStep 41 = .ok (.if_icmp .ge 73, 3) := by decide +kernel
theorem dX4_fastestStep_44 : decode cX4_fastestStep 44 = .ok (.aload_n 1, 1) := by decide +kernel
theorem dX4_fastestStep_45 : decode cX4_fastestStep 45 = .ok (.aload_n 0, 1) := by decide +kernel
theorem dX4_fastestStep_46 : decode cX4_fastestStep 46 = .ok (.getfield 32, 3) := by decide +kernel
theorem dX4_fastestStep_49 : decode cX4_fastestStep 49 = .ok (.iconst 2, 1) := by decide +kernel
theorem dX4_fastestStep_50 : decode cX4_fastestStep 50 = .ok (.idiv, 1) := by decide +kernel
theorem dX4_fastestStep_51 : decode cX4_fastestStep 51 = .ok (.invokevirtual 35, 3) := by decide +kernel
theorem dX4_fastestStep_54 : decode cX4_fastestStep 54 = .ok (.astore 8, 2) := by decide +kernel
theorem dX4_fastestStep_56 : decode cX4_fastestStep 56 = .ok (.aload 8, 2) := by decide +kernel
theorem dX4_fastestStep_58 : decode cX4_fastestStep 58 = .ok (.ifnonnull 6, 3) := by decide +kernel
theorem dX4_fastestStep_61 : decode cX4_fastestStep 61 = .ok (.bipush (-6), 2) := by decide +kernel
theorem dX4_fastestStep_63 : decode cX4_fastestStep 63 = .ok (.ireturn, 1) := by decide +kernel
theorem dX4_fastestStep_64 : decode cX4_fastestStep 64 = .ok (.iload 6, 2) := by decide +kernel
theorem dX4_fastestStep_66 : decode cX4_fastestStep 66 = .ok (.iconst 1, 1) := by decide +kernel
theorem dX4_fastestStep_67 : decode cX4_fastestStep 67 = .ok (.aload_n 0, 1) := by decide +kernel
theorem dX4_fastestStep_68 : decode cX4_fastestStep 68 = .ok (.getfield 32, 3) := by decide +kernel
theorem dX4_fastestStep_71 : decode cX4_fastestStep 71 = .ok (.iconst 2, 1) := by decide +kernel
theorem dX4_fastestStep_72 : decode cX4_fastestStep 72 = .ok (.idiv, 1) := by decide +kernel
theorem dX4_fastestStep_73 : decode cX4_fastestStep 73 = .ok (.ishl, 1) := by decide +kernel
theorem dX4_fastestStep_74 : decode cX4_fastestStep 74 = .ok (.iconst (-1), 1) := by decide +kernel
theorem dX4_fastestStep_75 : decode cX4_fastestStep 75 = .ok (.ixor, 1) := by decide +kernel
theorem dX4_fastestStep_76 : decode cX4_fastestStep 76 = .ok (.iand, 1) := by decide +kernel
theorem dX4_fastestStep_77 : decode cX4_fastestStep 77 = .ok (.istore 6, 2) := by decide +kernel
theorem dX4_fastestStep_79 : decode cX4_fastestStep 79 = .ok (.aload 8, 2) := by decide +kernel
theorem dX4_fastestStep_81 : decode cX4_fastestStep 81 = .ok (.aload_n 0, 1) := by decide +kernel
theorem dX4_fastestStep_82 : decode cX4_fastestStep 82 = .ok (.getfield 32, 3) := by decide +kernel
theorem dX4_fastestStep_85 : decode cX4_fastestStep 85 = .ok (.invokestatic 39, 3) := by decide +kernel
theorem dX4_fastestStep_88 : decode cX4_fastestStep 88 = .ok (.invokevirtual 43, 3) := by decide +kernel
theorem dX4_fastestStep_91 : decode cX4_fastestStep 91 = .ok (.istore 9, 2) := by decide +kernel
theorem dX4_fastestStep_93 : decode cX4_fastestStep 93 = .ok (.aload_n 0, 1) := by decide +kernel
theorem dX4_fastestStep_94 : decode cX4_fastestStep 94 = .ok (.aload_n 1, 1) := by decide +kernel
theorem dX4_fastestStep_95 : decode cX4_fastestStep 95 = .ok (.aload_n 2, 1) := by decide +kernel
theorem dX4_fastestStep_96 : decode cX4_fastestStep 96 = .ok (.iload 6, 2) := by decide +kernel
theorem dX4_fastestStep_98 : decode cX4_fastestStep 98 = .ok (.aload 8, 2) := by decide +kernel
theorem dX4_fastestStep_100 : decode cX4_fastestStep 100 = .ok (.getfield 49, 3) := by decide +kernel
theorem dX4_fastestStep_103 : decode cX4_fastestStep 103 = .ok (.iload 9, 2) := by decide +kernel
theorem dX4_fastestStep_105 : decode cX4_fastestStep 105 = .ok (.invokevirtual 25, 3) := by decide +kernel
theorem dX4_fastestStep_108 : decode cX4_fastestStep 108 = .ok (.iinc 7 1, 3) := by decide +kernel
theorem dX4_fastestStep_111 : decode cX4_fastestStep 111 = .ok (.goto (-81), 3) := by decide +kernel
theorem dX4_fastestStep_114 : decode cX4_fastestStep 114 = .ok (.aload_n 0, 1) := by decide +kernel
theorem dX4_fastestStep_115 : decode cX4_fastestStep 115 = .ok (.getfield 32, 3) := by decide +kernel
theorem dX4_fastestStep_118 : decode cX4_fastestStep 118 = .ok (.ireturn, 1) := by decide +kernel
set_option maxRecDepth 20000 in
theorem ggX4_fillTimes_X6_find : GoodIn wsX4_fillTimes wsX6_find := goodIn_r _ [8, 9, 10, 11, 12, 7, 13, 14, 69, 70] (by decide +kernel) (by decide +kernel)
set_option maxRecDepth 20000 in
theorem gX4_fillTimes_X6_find : GoodIn wsX4_fillTimes (wsV RX4 35 RX6 yX6_find wsX6_find) := goodIn_app (goodIn_of _ (by decide +kernel)) ggX4_fillTimes_X6_find
set_option maxRecDepth 20000 in
theorem ggX4_fillTimes_X4_isIn : GoodIn wsX4_fillTimes wsX4_isIn := goodIn_r _ [18] (by decide +kernel) (by decide +kernel)
set_option maxRecDepth 20000 in
theorem gX4_fillTimes_X4_isIn : GoodIn wsX4_fillTimes (va_wsS RX4 52 yX4_isIn wsX4_isIn) := goodIn_app (goodIn_of _ (by decide +kernel)) ggX4_fillTimes_X4_isIn
set_option maxRecDepth 20000 in
theorem ggX4_fillTimes_X4_isEastbound : GoodIn wsX4_fillTimes wsX4_isEastbound := goodIn_r _ [21] (by decide +kernel) (by decide +kernel)
set_option maxRecDepth 20000 in
theorem gX4_fillTimes_X4_isEastbound : GoodIn wsX4_fillTimes (va_wsS RX4 39 yX4_isEastbound wsX4_isEastbound) := goodIn_app (goodIn_of _ (by decide +kernel)) ggX4_fillTimes_X4_isEastbound
set_option maxRecDepth 20000 in
theorem ggX4_fillTimes_X5_exitColumn : GoodIn wsX4_fillTimes wsX5_exitColumn := goodIn_r _ [26, 27, 28, 71, 72, 73, 74] (by decide +kernel) (by decide +kernel)
set_option maxRecDepth 20000 in
theorem gX4_fillTimes_X5_exitColumn : GoodIn wsX4_fillTimes (wsV RX4 43 RX5 yX5_exitColumn wsX5_exitColumn) := goodIn_app (goodIn_of _ (by decide +kernel)) ggX4_fillTimes_X5_exitColumn
set_option maxRecDepth 20000 in
theorem ggX4_fillTimes_X4_choose : GoodIn wsX4_fillTimes wsX4_choose := goodIn_r _ [32, 33, 3, 1, 4, 5, 6, 7, 8, 9, 10, 11, 12, 13, 14, 15, 16, 17, 18, 19, 20, 21, 34, 35, 36, 37, 38, 39, 40, 41, 42, 43, 44, 45, 46, 47, 48, 25, 49, 28, 27, 50, 51, 52, 53, 54, 55, 56, 57, 58, 59, 60, 61, 62, 63, 64, 75, 76, 77, 69, 70, 71, 72, 73, 74, 78, 79, 80] (by decide +kernel) (by decide +kernel)
set_option maxRecDepth 20000 in
theorem gX4_fillTimes_X4_choose : GoodIn wsX4_fillTimes (wsV RX4 25 RX4 yX4_choose wsX4_choose) := goodIn_app (goodIn_of _ (by decide +kernel)) ggX4_fillTimes_X4_choose
set_option maxRecDepth 20000 in
theorem ggX4_fillTimes_X4_putTimeLeft : GoodIn wsX4_fillTimes wsX4_putTimeLeft := goodIn_r _ [68, 64, 75, 76, 77] (by decide +kernel) (by decide +kernel)
set_option maxRecDepth 20000 in
theorem gX4_fillTimes_X4_putTimeLeft : GoodIn wsX4_fillTimes (wsV RX4 56 RX4 yX4_putTimeLeft wsX4_putTimeLeft) := goodIn_app (goodIn_of _ (by decide +kernel)) ggX4_fillTimes_X4_putTimeLeft
theorem dX4_fillTimes_0 : decode cX4_fillTimes 0 = .ok (.iconst 0, 1) := by decide +kernel
theorem dX4_fillTimes_1 : decode cX4_fillTimes 1 = .ok (.istore_n 3, 1) := by decide +kernel
theorem dX4_fillTimes_2 : decode cX4_fillTimes 2 = .ok (.iload_n 3, 1) := by decide +kernel
theorem dX4_fillTimes_3 : decode cX4_fillTimes 3 = .ok (.iconst 1, 1) := by decide +kernel
theorem dX4_fillTimes_4 : decode cX4_fillTimes 4 = .ok (.aload_n 1, 1) := by decide +kernel
theorem dX4_fillTimes_5 : decode cX4_fillTimes 5 = .ok (.getfield 19, 3) := by decide +kernel
theorem dX4_fillTimes_8 : decode cX4_fillTimes 8 = .ok (.ishl, 1) := by decide +kernel
theorem dX4_fillTimes_9 : decode cX4_fillTimes 9 = .ok (.if_icmp .ge 92, 3) := by decide +kernel
theorem dX4_fillTimes_12 : decode cX4_fillTimes 12 = .ok (.iconst 0, 1) := by decide +kernel
theorem dX4_fillTimes_13 : decode cX4_fillTimes 13 = .ok (.istore 4, 2) := by decide +kernel
theorem dX4_fillTimes_15 : decode cX4_fillTimes 15 = .ok (.iload 4, 2) := by decide +kernel
theorem dX4_fillTimes_17 : decode cX4_fillTimes 17 = .ok (.iconst 2, 1) := by decide +kernel
theorem dX4_fillTimes_18 : decode cX4_fillTimes 18 = .ok (.aload_n 1, 1) := by decide +kernel
theorem dX4_fillTimes_19 : decode cX4_fillTimes 19 = .ok (.getfield 19, 3) := by decide +kernel
theorem dX4_fillTimes_22 : decode cX4_fillTimes 22 = .ok (.imul, 1) := by decide +kernel
theorem dX4_fillTimes_23 : decode cX4_fillTimes 23 = .ok (.if_icmp .ge 72, 3) := by decide +kernel
theorem dX4_fillTimes_26 : decode cX4_fillTimes 26 = .ok (.aload_n 1, 1) := by decide +kernel
theorem dX4_fillTimes_27 : decode cX4_fillTimes 27 = .ok (.iload 4, 2) := by decide +kernel
theorem dX4_fillTimes_29 : decode cX4_fillTimes 29 = .ok (.iconst 2, 1) := by decide +kernel
theorem dX4_fillTimes_30 : decode cX4_fillTimes 30 = .ok (.idiv, 1) := by decide +kernel
theorem dX4_fillTimes_31 : decode cX4_fillTimes 31 = .ok (.invokevirtual 35, 3) := by decide +kernel
theorem dX4_fillTimes_34 : decode cX4_fillTimes 34 = .ok (.astore 5, 2) := by decide +kernel
theorem dX4_fillTimes_36 : decode cX4_fillTimes 36 = .ok (.aload 5, 2) := by decide +kernel
theorem dX4_fillTimes_38 : decode cX4_fillTimes 38 = .ok (.ifnull 51, 3) := by decide +kernel
theorem dX4_fillTimes_41 : decode cX4_fillTimes 41 = .ok (.iload_n 3, 1) := by decide +kernel
theorem dX4_fillTimes_42 : decode cX4_fillTimes 42 = .ok (.iload 4, 2) := by decide +kernel
theorem dX4_fillTimes_44 : decode cX4_fillTimes 44 = .ok (.iconst 2, 1) := by decide +kernel
theorem dX4_fillTimes_45 : decode cX4_fillTimes 45 = .ok (.idiv, 1) := by decide +kernel
theorem dX4_fillTimes_46 : decode cX4_fillTimes 46 = .ok (.invokestatic 52, 3) := by decide +kernel
theorem dX4_fillTimes_49 : decode cX4_fillTimes 49 = .ok (.ifCond .ne 40, 3) := by decide +kernel
theorem dX4_fillTimes_52 : decode cX4_fillTimes 52 = .ok (.aload 5, 2) := by decide +kernel
theorem dX4_fillTimes_54 : decode cX4_fillTimes 54 = .ok (.iload 4, 2) := by decide +kernel
theorem dX4_fillTimes_56 : decode cX4_fillTimes 56 = .ok (.invokestatic 39, 3) := by decide +kernel
theorem dX4_fillTimes_59 : decode cX4_fillTimes 59 = .ok (.invokevirtual 43, 3) := by decide +kernel
theorem dX4_fillTimes_62 : decode cX4_fillTimes 62 = .ok (.istore 6, 2) := by decide +kernel
theorem dX4_fillTimes_64 : decode cX4_fillTimes 64 = .ok (.aload_n 0, 1) := by decide +kernel
theorem dX4_fillTimes_65 : decode cX4_fillTimes 65 = .ok (.aload_n 1, 1) := by decide +kernel
theorem dX4_fillTimes_66 : decode cX4_fillTimes 66 = .ok (.aload_n 2, 1) := by decide +kernel
theorem dX4_fillTimes_67 : decode cX4_fillTimes 67 = .ok (.iload_n 3, 1) := by decide +kernel
theorem dX4_fillTimes_68 : decode cX4_fillTimes 68 = .ok (.aload 5, 2) := by decide +kernel
theorem dX4_fillTimes_70 : decode cX4_fillTimes 70 = .ok (.getfield 49, 3) := by decide +kernel
theorem dX4_fillTimes_73 : decode cX4_fillTimes 73 = .ok (.iload 6, 2) := by decide +kernel
theorem dX4_fillTimes_75 : decode cX4_fillTimes 75 = .ok (.invokevirtual 25, 3) := by decide +kernel
theorem dX4_fillTimes_78 : decode cX4_fillTimes 78 = .ok (.aload_n 0, 1) := by decide +kernel
theorem dX4_fillTimes_79 : decode cX4_fillTimes 79 = .ok (.iload_n 3, 1) := by decide +kernel
theorem dX4_fillTimes_80 : decode cX4_fillTimes 80 = .ok (.iload 4, 2) := by decide +kernel
theorem dX4_fillTimes_82 : decode cX4_fillTimes 82 = .ok (.aload_n 0, 1) := by decide +kernel
theorem dX4_fillTimes_83 : decode cX4_fillTimes 83 = .ok (.getfield 29, 3) := by decide +kernel
theorem dX4_fillTimes_86 : decode cX4_fillTimes 86 = .ok (.invokevirtual 56, 3) := by decide +kernel
theorem dX4_fillTimes_89 : decode cX4_fillTimes 89 = .ok (.iinc 4 1, 3) := by decide +kernel
theorem dX4_fillTimes_92 : decode cX4_fillTimes 92 = .ok (.goto (-77), 3) := by decide +kernel
theorem dX4_fillTimes_95 : decode cX4_fillTimes 95 = .ok (.iinc 3 1, 3) := by decide +kernel
theorem dX4_fillTimes_98 : decode cX4_fillTimes 98 = .ok (.goto (-96), 3) := by decide +kernel
theorem dX4_fillTimes_101 : decode cX4_fillTimes 101 = .ok (.return_, 1) := by decide +kernel
set_option maxRecDepth 20000 in
theorem ggX4_choose_X6_find : GoodIn wsX4_choose wsX6_find := goodIn_r _ [8, 9, 10, 11, 12, 7, 13, 14, 59, 60] (by decide +kernel) (by decide +kernel)
set_option maxRecDepth 20000 in
theorem gX4_choose_X6_find : GoodIn wsX4_choose (wsV RX4 35 RX6 yX6_find wsX6_find) := goodIn_app (goodIn_of _ (by decide +kernel)) ggX4_choose_X6_find
set_option maxRecDepth 20000 in
theorem ggX4_choose_X4_isIn : GoodIn wsX4_choose wsX4_isIn := goodIn_r _ [18] (by decide +kernel) (by decide +kernel)
set_option maxRecDepth 20000 in
theorem gX4_choose_X4_isIn : GoodIn wsX4_choose (va_wsS RX4 52 yX4_isIn wsX4_isIn) := goodIn_app (goodIn_of _ (by decide +kernel)) ggX4_choose_X4_isIn
set_option maxRecDepth 20000 in
theorem ggX4_choose_X4_isEastbound : GoodIn wsX4_choose wsX4_isEastbound := goodIn_r _ [21] (by decide +kernel) (by decide +kernel)
set_option maxRecDepth 20000 in
theorem gX4_choose_X4_isEastbound : GoodIn wsX4_choose (va_wsS RX4 39 yX4_isEastbound wsX4_isEastbound) := goodIn_app (goodIn_of _ (by decide +kernel)) ggX4_choose_X4_isEastbound
set_option maxRecDepth 20000 in
theorem ggX4_choose_X0_transferTime : GoodIn wsX4_choose wsX0_transferTime := goodIn_r _ [26, 27, 28, 29, 30, 31, 32, 33, 34, 35, 36, 37, 38, 39, 40, 41, 42, 43, 61, 62, 63, 64, 65, 66, 67] (by decide +kernel) (by decide +kernel)
set_option maxRecDepth 20000 in
theorem gX4_choose_X0_transferTime : GoodIn wsX4_choose (wsV RX4 60 RX0 yX0_transferTime wsX0_transferTime) := goodIn_app (goodIn_of _ (by decide +kernel)) ggX4_choose_X0_transferTime
set_option maxRecDepth 20000 in
theorem ggX4_choose_X0_flightTime : GoodIn wsX4_choose wsX0_flightTime := goodIn_r _ [47, 32, 48, 49, 50, 41, 42, 43, 65, 66, 67, 61, 62, 63, 64] (by decide +kernel) (by decide +kernel)
set_option maxRecDepth 20000 in
theorem gX4_choose_X0_flightTime : GoodIn wsX4_choose (wsV RX4 66 RX0 yX0_flightTime wsX0_flightTime) := goodIn_app (goodIn_of _ (by decide +kernel)) ggX4_choose_X0_flightTime
set_option maxRecDepth 20000 in
theorem ggX4_choose_X4_timeLeftAt : GoodIn wsX4_choose wsX4_timeLeftAt := goodIn_r _ [54, 55, 56, 57, 58] (by decide +kernel) (by decide +kernel)
set_option maxRecDepth 20000 in
theorem gX4_choose_X4_timeLeftAt : GoodIn wsX4_choose (wsV RX4 70 RX4 yX4_timeLeftAt wsX4_timeLeftAt) := goodIn_app (goodIn_of _ (by decide +kernel)) ggX4_choose_X4_timeLeftAt
theorem dX4_choose_0 : decode cX4_choose 0 = .ok (.aload_n 0, 1) := by decide +kernel
theorem dX4_choose_1 : decode cX4_choose 1 = .ok (.bipush (-6), 2) := by decide +kernel
theorem dX4_choose_3 : decode cX4_choose 3 = .ok (.putfield 32, 3) := by decide +kernel
theorem dX4_choose_6 : decode cX4_choose 6 = .ok (.aload_n 0, 1) := by decide +kernel
theorem dX4_choose_7 : decode cX4_choose 7 = .ok (.iconst 0, 1) := by decide +kernel
theorem dX4_choose_8 : decode cX4_choose 8 = .ok (.putfield 29, 3) := by decide +kernel
theorem dX4_choose_11 : decode cX4_choose 11 = .ok (.iconst 0, 1) := by decide +kernel
theorem dX4_choose_12 : decode cX4_choose 12 = .ok (.istore 6, 2) := by decide +kernel
theorem dX4_choose_14 : decode cX4_choose 14 = .ok (.iload 6, 2) := by decide +kernel
theorem dX4_choose_16 : decode cX4_choose 16 = .ok (.iconst 2, 1) := by decide +kernel
theorem dX4_choose_17 : decode cX4_choose 17 = .ok (.aload_n 1, 1) := by decide +kernel
theorem dX4_choose_18 : decode cX4_choose 18 = .ok (.getfield 19, 3) := by decide +kernel
theorem dX4_choose_21 : decode cX4_choose 21 = .ok (.imul, 1) := by decide +kernel
theorem dX4_choose_22 : decode cX4_choose 22 = .ok (.if_icmp .ge 116, 3) := by decide +kernel
theorem dX4_choose_25 : decode cX4_choose 25 = .ok (.aload_n 1, 1) := by decide +kernel
theorem dX4_choose_26 : decode cX4_choose 26 = .ok (.iload 6, 2) := by decide +kernel
theorem dX4_choose_28 : decode cX4_choose 28 = .ok (.iconst 2, 1) := by decide +kernel
theorem dX4_choose_29 : decode cX4_choose 29 = .ok (.idiv, 1) := by decide +kernel
theorem dX4_choose_30 : decode cX4_choose 30 = .ok (.invokevirtual 35, 3) := by decide +kernel
theorem dX4_choose_33 : decode cX4_choose 33 = .ok (.astore 7, 2) := by decide +kernel
theorem dX4_choose_35 : decode cX4_choose 35 = .ok (.aload 7, 2) := by decide +kernel
theorem dX4_choose_37 : decode cX4_choose 37 = .ok (.ifnull 95, 3) := by decide +kernel
theorem dX4_choose_40 : decode cX4_choose 40 = .ok (.iload_n 3, 1) := by decide +kernel
theorem dX4_choose_41 : decode cX4_choose 41 = .ok (.iload 6, 2) := by decide +kernel
theorem dX4_choose_43 : decode cX4_choose 43 = .ok (.iconst 2, 1) := by decide +kernel
theorem dX4_choose_44 : decode cX4_choose 44 = .ok (.idiv, 1) := by decide +kernel
theorem dX4_choose_45 : decode cX4_choose 45 = .ok (.invokestatic 52, 3) := by decide +kernel
theorem dX4_choose_48 : decode cX4_choose 48 = .ok (.ifCond .eq 84, 3) := by decide +kernel
theorem dX4_choose_51 : decode cX4_choose 51 = .ok (.iload 6, 2) := by decide +kernel
theorem dX4_choose_53 : decode cX4_choose 53 = .ok (.invokestatic 39, 3) := by decide +kernel
theorem dX4_choose_56 : decode cX4_choose 56 = .ok (.istore 8, 2) := by decide +kernel
theorem dX4_choose_58 : decode cX4_choose 58 = .ok (.iload_n 3, 1) := by decide +kernel
theorem dX4_choose_59 : decode cX4_choose 59 = .ok (.iconst 1, 1) := by decide +kernel
theorem dX4_choose_60 : decode cX4_choose 60 = .ok (.iload 6, 2) := by decide +kernel
theorem dX4_choose_62 : decode cX4_choose 62 = .ok (.iconst 2, 1) := by decide +kernel
theorem dX4_choose_63 : decode cX4_choose 63 = .ok (.idiv, 1) := by decide +kernel
theorem dX4_choose_64 : decode cX4_choose 64 = .ok (.ishl, 1) := by decide +kernel
theorem dX4_choose_65 : decode cX4_choose 65 = .ok (.iconst (-1), 1) := by decide +kernel
theorem dX4_choose_66 : decode cX4_choose 66 = .ok (.ixor, 1) := by decide +kernel
theorem dX4_choose_67 : decode cX4_choose 67 = .ok (.iand, 1) := by decide +kernel
theorem dX4_choose_68 : decode cX4_choose 68 = .ok (.istore 9, 2) := by decide +kernel
theorem dX4_choose_70 : decode cX4_choose 70 = .ok (.aload_n 2, 1) := by decide +kernel
theorem dX4_choose_71 : decode cX4_choose 71 = .ok (.iload 4, 2) := by decide +kernel
theorem dX4_choose_73 : decode cX4_choose 73 = .ok (.iload 5, 2) := by decide +kernel
theorem dX4_choose_75 : decode cX4_choose 75 = .ok (.aload 7, 2) := by decide +kernel
theorem dX4_choose_77 : decode cX4_choose 77 = .ok (.iload 8, 2) := by decide +kernel
theorem dX4_choose_79 : decode cX4_choose 79 = .ok (.invokevirtual 60, 3) := by decide +kernel
theorem dX4_choose_82 : decode cX4_choose 82 = .ok (.aload_n 2, 1) := by decide +kernel
theorem dX4_choose_83 : decode cX4_choose 83 = .ok (.aload 7, 2) := by decide +kernel
theorem dX4_choose_85 : decode cX4_choose 85 = .ok (.iload 8, 2) := by decide +kernel
theorem dX4_choose_87 : decode cX4_choose 87 = .ok (.invokevirtual 66, 3) := by decide +kernel
theorem dX4_choose_90 : decode cX4_choose 90 = .ok (.iadd, 1) := by decide +kernel
theorem dX4_choose_91 : decode cX4_choose 91 = .ok (.aload_n 0, 1) := by decide +kernel
theorem dX4_choose_92 : decode cX4_choose 92 = .ok (.iload 9, 2) := by decide +kernel
theorem dX4_choose_94 : decode cX4_choose 94 = .ok (.iload 6, 2) := by decide +kernel
theorem dX4_choose_96 : decode cX4_choose 96 = .ok (.invokevirtual 70, 3) := by decide +kernel
theorem dX4_choose_99 : decode cX4_choose 99 = .ok (.iadd, 1) := by decide +kernel
theorem dX4_choose_100 : decode cX4_choose 100 = .ok (.istore 10, 2) := by decide +kernel
theorem dX4_choose_102 : decode cX4_choose 102 = .ok (.aload_n 0, 1) := by decide +kernel
theorem dX4_choose_103 : decode cX4_choose 103 = .ok (.getfield 32, 3) := by decide +kernel
theorem dX4_choose_106 : decode cX4_choose 106 = .ok (.bipush (-6), 2) := by decide +kernel
theorem dX4_choose_108 : decode cX4_choose 108 = .ok (.if_icmp .eq 12, 3) := by decide +kernel
theorem dX4_choose_111 : decode cX4_choose 111 = .ok (.iload 10, 2) := by decide +kernel
theorem dX4_choose_113 : decode cX4_choose 113 = .ok (.aload_n 0, 1) := by decide +kernel
theorem dX4_choose_114 : decode cX4_choose 114 = .ok (.getfield 29, 3) := by decide +kernel
theorem dX4_choose_117 : decode cX4_choose 117 = .ok (.if_icmp .ge 15, 3) := by decide +kernel
theorem dX4_choose_120 : decode cX4_choose 120 = .ok (.aload_n 0, 1) := by decide +kernel
theorem dX4_choose_121 : decode cX4_choose 121 = .ok (.iload 6, 2) := by decide +kernel
theorem dX4_choose_123 : decode cX4_choose 123 = .ok (.putfield 32, 3) := by decide +kernel
theorem dX4_choose_126 : decode cX4_choose 126 = .ok (.aload_n 0, 1) := by decide +kernel
theorem dX4_choose_127 : decode cX4_choose 127 = .ok (.iload 10, 2) := by decide +kernel
theorem dX4_choose_129 : decode cX4_choose 129 = .ok (.putfield 29, 3) := by decide +kernel
theorem dX4_choose_132 : decode cX4_choose 132 = .ok (.iinc 6 1, 3) := by decide +kernel
theorem dX4_choose_135 : decode cX4_choose 135 = .ok (.goto (-121), 3) := by decide +kernel
theorem dX4_choose_138 : decode cX4_choose 138 = .ok (.return_, 1) := by decide +kernel
theorem dX4_timeLeftAt_0 : decode cX4_timeLeftAt 0 = .ok (.iload_n 1, 1) := by decide +kernel
theorem dX4_timeLeftAt_1 : decode cX4_timeLeftAt 1 = .ok (.bipush 16, 2) := by decide +kernel
theorem dX4_timeLeftAt_3 : decode cX4_timeLeftAt 3 = .ok (.imul, 1) := by decide +kernel
theorem dX4_timeLeftAt_4 : decode cX4_timeLeftAt 4 = .ok (.iload_n 2, 1) := by decide +kernel
theorem dX4_timeLeftAt_5 : decode cX4_timeLeftAt 5 = .ok (.iadd, 1) := by decide +kernel
theorem dX4_timeLeftAt_6 : decode cX4_timeLeftAt 6 = .ok (.istore_n 3, 1) := by decide +kernel
theorem dX4_timeLeftAt_7 : decode cX4_timeLeftAt 7 = .ok (.iload_n 3, 1) := by decide +kernel
theorem dX4_timeLeftAt_8 : decode cX4_timeLeftAt 8 = .ok (.ifCond .lt 21, 3) := by decide +kernel
theorem dX4_timeLeftAt_11 : decode cX4_timeLeftAt 11 = .ok (.iload_n 3, 1) := by decide +kernel
theorem dX4_timeLeftAt_12 : decode cX4_timeLeftAt 12 = .ok (.aload_n 0, 1) := by decide +kernel
theorem dX4_timeLeftAt_13 : decode cX4_timeLeftAt 13 = .ok (.getfield 11, 3) := by decide +kernel
theorem dX4_timeLeftAt_16 : decode cX4_timeLeftAt 16 = .ok (.arraylength, 1) := by decide +kernel
theorem dX4_timeLeftAt_17 : decode cX4_timeLeftAt 17 = .ok (.if_icmp .ge 12, 3) := by decide +kernel
theorem dX4_timeLeftAt_20 : decode cX4_timeLeftAt 20 = .ok (.aload_n 0, 1) := by decide +kernel
theorem dX4_timeLeftAt_21 : decode cX4_timeLeftAt 21 = .ok (.getfield 11, 3) := by decide +kernel
theorem dX4_timeLeftAt_24 : decode cX4_timeLeftAt 24 = .ok (.iload_n 3, 1) := by decide +kernel
theorem dX4_timeLeftAt_25 : decode cX4_timeLeftAt 25 = .ok (.iaload, 1) := by decide +kernel
theorem dX4_timeLeftAt_26 : decode cX4_timeLeftAt 26 = .ok (.goto 4, 3) := by decide +kernel
theorem dX4_timeLeftAt_29 : decode cX4_timeLeftAt 29 = .ok (.iconst 0, 1) := by decide +kernel
theorem dX4_timeLeftAt_30 : decode cX4_timeLeftAt 30 = .ok (.ireturn, 1) := by decide +kernel
theorem dX4_putTimeLeft_0 : decode cX4_putTimeLeft 0 = .ok (.iload_n 1, 1) := by decide +kernel
theorem dX4_putTimeLeft_1 : decode cX4_putTimeLeft 1 = .ok (.bipush 16, 2) := by decide +kernel
theorem dX4_putTimeLeft_3 : decode cX4_putTimeLeft 3 = .ok (.imul, 1) := by decide +kernel
theorem dX4_putTimeLeft_4 : decode cX4_putTimeLeft 4 = .ok (.iload_n 2, 1) := by decide +kernel
theorem dX4_putTimeLeft_5 : decode cX4_putTimeLeft 5 = .ok (.iadd, 1) := by decide +kernel
theorem dX4_putTimeLeft_6 : decode cX4_putTimeLeft 6 = .ok (.istore 4, 2) := by decide +kernel
theorem dX4_putTimeLeft_8 : decode cX4_putTimeLeft 8 = .ok (.iload 4, 2) := by decide +kernel
theorem dX4_putTimeLeft_10 : decode cX4_putTimeLeft 10 = .ok (.ifCond .lt 21, 3) := by decide +kernel
theorem dX4_putTimeLeft_13 : decode cX4_putTimeLeft 13 = .ok (.iload 4, 2) := by decide +kernel
theorem dX4_putTimeLeft_15 : decode cX4_putTimeLeft 15 = .ok (.aload_n 0, 1) := by decide +kernel
theorem dX4_putTimeLeft_16 : decode cX4_putTimeLeft 16 = .ok (.getfield 11, 3) := by decide +kernel
theorem dX4_putTimeLeft_19 : decode cX4_putTimeLeft 19 = .ok (.arraylength, 1) := by decide +kernel
theorem dX4_putTimeLeft_20 : decode cX4_putTimeLeft 20 = .ok (.if_icmp .ge 11, 3) := by decide +kernel
theorem dX4_putTimeLeft_23 : decode cX4_putTimeLeft 23 = .ok (.aload_n 0, 1) := by decide +kernel
theorem dX4_putTimeLeft_24 : decode cX4_putTimeLeft 24 = .ok (.getfield 11, 3) := by decide +kernel
theorem dX4_putTimeLeft_27 : decode cX4_putTimeLeft 27 = .ok (.iload 4, 2) := by decide +kernel
theorem dX4_putTimeLeft_29 : decode cX4_putTimeLeft 29 = .ok (.iload_n 3, 1) := by decide +kernel
theorem dX4_putTimeLeft_30 : decode cX4_putTimeLeft 30 = .ok (.iastore, 1) := by decide +kernel
theorem dX4_putTimeLeft_31 : decode cX4_putTimeLeft 31 = .ok (.return_, 1) := by decide +kernel
theorem dX4_isIn_0 : decode cX4_isIn 0 = .ok (.iload_n 0, 1) := by decide +kernel
theorem dX4_isIn_1 : decode cX4_isIn 1 = .ok (.iload_n 1, 1) := by decide +kernel
theorem dX4_isIn_2 : decode cX4_isIn 2 = .ok (.ishr, 1) := by decide +kernel
theorem dX4_isIn_3 : decode cX4_isIn 3 = .ok (.iconst 1, 1) := by decide +kernel
theorem dX4_isIn_4 : decode cX4_isIn 4 = .ok (.iand, 1) := by decide +kernel
theorem dX4_isIn_5 : decode cX4_isIn 5 = .ok (.iconst 1, 1) := by decide +kernel
theorem dX4_isIn_6 : decode cX4_isIn 6 = .ok (.if_icmp .ne 7, 3) := by decide +kernel
theorem dX4_isIn_9 : decode cX4_isIn 9 = .ok (.iconst 1, 1) := by decide +kernel
theorem dX4_isIn_10 : decode cX4_isIn 10 = .ok (.goto 4, 3) := by decide +kernel
theorem dX4_isIn_13 : decode cX4_isIn 13 = .ok (.iconst 0, 1) := by decide +kernel
theorem dX4_isIn_14 : decode cX4_isIn 14 = .ok (.ireturn, 1) := by decide +kernel
theorem dX4_isEastbound_0 : decode cX4_isEastbound 0 = .ok (.iload_n 0, 1) := by decide +kernel
theorem dX4_isEastbound_1 : decode cX4_isEastbound 1 = .ok (.iconst 2, 1) := by decide +kernel
theorem dX4_isEastbound_2 : decode cX4_isEastbound 2 = .ok (.irem, 1) := by decide +kernel
theorem dX4_isEastbound_3 : decode cX4_isEastbound 3 = .ok (.ifCond .ne 7, 3) := by decide +kernel
theorem dX4_isEastbound_6 : decode cX4_isEastbound 6 = .ok (.iconst 1, 1) := by decide +kernel
theorem dX4_isEastbound_7 : decode cX4_isEastbound 7 = .ok (.goto 4, 3) := by decide +kernel
theorem dX4_isEastbound_10 : decode cX4_isEastbound 10 = .ok (.iconst 0, 1) := by decide +kernel
theorem dX4_isEastbound_11 : decode cX4_isEastbound 11 = .ok (.ireturn, 1) := by decide +kernel
theorem dX5_init_0 : decode cX5_init 0 = .ok (.aload_n 0, 1) := by decide +kernel
theorem dX5_init_1 : decode cX5_init 1 = .ok (.invokespecial 1, 3) := by decide +kernel
theorem dX5_init_4 : decode cX5_init 4 = .ok (.return_, 1) := by decide +kernel
theorem dX5_put_0 : decode cX5_put 0 = .ok (.aload_n 0, 1) := by decide +kernel
theorem dX5_put_1 : decode cX5_put 1 = .ok (.iload_n 1, 1) := by decide +kernel
theorem dX5_put_2 : decode cX5_put 2 = .ok (.putfield 7, 3) := by decide +kernel
theorem dX5_put_5 : decode cX5_put 5 = .ok (.aload_n 0, 1) := by decide +kernel
theorem dX5_put_6 : decode cX5_put 6 = .ok (.iload_n 2, 1) := by decide +kernel
theorem dX5_put_7 : decode cX5_put 7 = .ok (.putfield 13, 3) := by decide +kernel
theorem dX5_put_10 : decode cX5_put 10 = .ok (.aload_n 0, 1) := by decide +kernel
theorem dX5_put_11 : decode cX5_put 11 = .ok (.iload_n 3, 1) := by decide +kernel
theorem dX5_put_12 : decode cX5_put 12 = .ok (.putfield 16, 3) := by decide +kernel
theorem dX5_put_15 : decode cX5_put 15 = .ok (.aload_n 0, 1) := by decide +kernel
theorem dX5_put_16 : decode cX5_put 16 = .ok (.iload 4, 2) := by decide +kernel
theorem dX5_put_18 : decode cX5_put 18 = .ok (.putfield 19, 3) := by decide +kernel
theorem dX5_put_21 : decode cX5_put 21 = .ok (.return_, 1) := by decide +kernel
set_option maxRecDepth 20000 in
theorem ggX5_photos_X8_quotient : GoodIn wsX5_photos wsX8_quotient := goodIn_r _ [6] (by decide +kernel) (by decide +kernel)
set_option maxRecDepth 20000 in
theorem gX5_photos_X8_quotient_n22 : GoodIn wsX5_photos (wsX8_quotient) := ggX5_photos_X8_quotient
theorem dX5_photos_0 : decode cX5_photos 0 = .ok (.aload_n 0, 1) := by decide +kernel
theorem dX5_photos_1 : decode cX5_photos 1 = .ok (.getfield 16, 3) := by decide +kernel
theorem dX5_photos_4 : decode cX5_photos 4 = .ok (.aload_n 0, 1) := by decide +kernel
theorem dX5_photos_5 : decode cX5_photos 5 = .ok (.getfield 13, 3) := by decide +kernel
theorem dX5_photos_8 : decode cX5_photos 8 = .ok (.isub, 1) := by decide +kernel
theorem dX5_photos_9 : decode cX5_photos 9 = .ok (.aload_n 0, 1) := by decide +kernel
theorem dX5_photos_10 : decode cX5_photos 10 = .ok (.getfield 19, 3) := by decide +kernel
theorem dX5_photos_13 : decode cX5_photos 13 = .ok (.invokestatic 22, 3) := by decide +kernel
theorem dX5_photos_16 : decode cX5_photos 16 = .ok (.iconst 1, 1) := by decide +kernel
theorem dX5_photos_17 : decode cX5_photos 17 = .ok (.iadd, 1) := by decide +kernel
theorem dX5_photos_18 : decode cX5_photos 18 = .ok (.ireturn, 1) := by decide +kernel
set_option maxRecDepth 20000 in
theorem ggX5_hasPhoto_X5_photos : GoodIn wsX5_hasPhoto wsX5_photos := goodIn_r _ [5, 6, 7, 8, 9, 10, 11, 12, 13, 14, 15] (by decide +kernel) (by decide +kernel)
set_option maxRecDepth 20000 in
theorem gX5_hasPhoto_X5_photos : GoodIn wsX5_hasPhoto (wsV RX5 28 RX5 yX5_photos wsX5_photos) := goodIn_app (goodIn_of _ (by decide +kernel)) ggX5_hasPhoto_X5_photos
theorem dX5_hasPhoto_0 : decode cX5_hasPhoto 0 = .ok (.iload_n 1, 1) := by decide +kernel
theorem dX5_hasPhoto_1 : decode cX5_hasPhoto 1 = .ok (.ifCond .lt 15, 3) := by decide +kernel
theorem dX5_hasPhoto_4 : decode cX5_hasPhoto 4 = .ok (.iload_n 1, 1) := by decide +kernel
theorem dX5_hasPhoto_5 : decode cX5_hasPhoto 5 = .ok (.aload_n 0, 1) := by decide +kernel
theorem dX5_hasPhoto_6 : decode cX5_hasPhoto 6 = .ok (.invokevirtual 28, 3) := by decide +kernel
theorem dX5_hasPhoto_9 : decode cX5_hasPhoto 9 = .ok (.if_icmp .ge 7, 3) := by decide +kernel
theorem dX5_hasPhoto_12 : decode cX5_hasPhoto 12 = .ok (.iconst 1, 1) := by decide +kernel
theorem dX5_hasPhoto_13 : decode cX5_hasPhoto 13 = .ok (.goto 4, 3) := by decide +kernel
theorem dX5_hasPhoto_16 : decode cX5_hasPhoto 16 = .ok (.iconst 0, 1) := by decide +kernel
theorem dX5_hasPhoto_17 : decode cX5_hasPhoto 17 = .ok (.ireturn, 1) := by decide +kernel
theorem dX5_columnOf_0 : decode cX5_columnOf 0 = .ok (.aload_n 0, 1) := by decide +kernel
theorem dX5_columnOf_1 : decode cX5_columnOf 1 = .ok (.getfield 13, 3) := by decide +kernel
theorem dX5_columnOf_4 : decode cX5_columnOf 4 = .ok (.iload_n 1, 1) := by decide +kernel
theorem dX5_columnOf_5 : decode cX5_columnOf 5 = .ok (.aload_n 0, 1) := by decide +kernel
theorem dX5_columnOf_6 : decode cX5_columnOf 6 = .ok (.getfield 19, 3) := by decide +kernel
theorem dX5_columnOf_9 : decode cX5_columnOf 9 = .ok (.imul, 1) := by decide +kernel
theorem dX5_columnOf_10 : decode cX5_columnOf 10 = .ok (.iadd, 1) := by decide +kernel
theorem dX5_columnOf_11 : decode cX5_columnOf 11 = .ok (.ireturn, 1) := by decide +kernel
theorem dX5_entryColumn_0 : decode cX5_entryColumn 0 = .ok (.iload_n 1, 1) := by decide +kernel
theorem dX5_entryColumn_1 : decode cX5_entryColumn 1 = .ok (.ifCond .eq 10, 3) := by decide +kernel
theorem dX5_entryColumn_4 : decode cX5_entryColumn 4 = .ok (.aload_n 0, 1) := by decide +kernel
theorem dX5_entryColumn_5 : decode cX5_entryColumn 5 = .ok (.getfield 13, 3) := by decide +kernel
theorem dX5_entryColumn_8 : decode cX5_entryColumn 8 = .ok (.goto 7, 3) := by decide +kernel
theorem dX5_entryColumn_11 : decode cX5_entryColumn 11 = .ok (.aload_n 0, 1) := by decide +kernel
theorem dX5_entryColumn_12 : decode cX5_entryColumn 12 = .ok (.getfield 16, 3) := by decide +kernel
theorem dX5_entryColumn_15 : decode cX5_entryColumn 15 = .ok (.ireturn, 1) := by decide +kernel
theorem dX5_exitColumn_0 : decode cX5_exitColumn 0 = .ok (.iload_n 1, 1) := by decide +kernel
theorem dX5_exitColumn_1 : decode cX5_exitColumn 1 = .ok (.ifCond .eq 10, 3) := by decide +kernel
theorem dX5_exitColumn_4 : decode cX5_exitColumn 4 = .ok (.aload_n 0, 1) := by decide +kernel
theorem dX5_exitColumn_5 : decode cX5_exitColumn 5 = .ok (.getfield 16, 3) := by decide +kernel
theorem dX5_exitColumn_8 : decode cX5_exitColumn 8 = .ok (.goto 7, 3) := by decide +kernel
theorem dX5_exitColumn_11 : decode cX5_exitColumn 11 = .ok (.aload_n 0, 1) := by decide +kernel
theorem dX5_exitColumn_12 : decode cX5_exitColumn 12 = .ok (.getfield 13, 3) := by decide +kernel
theorem dX5_exitColumn_15 : decode cX5_exitColumn 15 = .ok (.ireturn, 1) := by decide +kernel
set_option maxRecDepth 20000 in
theorem ggX5_sees_X5_photos : GoodIn wsX5_sees wsX5_photos := goodIn_r _ [6, 7, 8, 9, 10, 11, 12, 47, 48, 49, 50] (by decide +kernel) (by decide +kernel)
set_option maxRecDepth 20000 in
theorem gX5_sees_X5_photos : GoodIn wsX5_sees (wsV RX5 28 RX5 yX5_photos wsX5_photos) := goodIn_app (goodIn_of _ (by decide +kernel)) ggX5_sees_X5_photos
set_option maxRecDepth 20000 in
theorem ggX5_sees_X5_columnOf : GoodIn wsX5_sees wsX5_columnOf := goodIn_r _ [16, 8, 9, 47, 48, 49, 50] (by decide +kernel) (by decide +kernel)
set_option maxRecDepth 20000 in
theorem gX5_sees_X5_columnOf : GoodIn wsX5_sees (wsV RX5 32 RX5 yX5_columnOf wsX5_columnOf) := goodIn_app (goodIn_of _ (by decide +kernel)) ggX5_sees_X5_columnOf
set_option maxRecDepth 20000 in
theorem ggX5_sees_X1_sees : GoodIn wsX5_sees wsX1_sees := goodIn_r _ [21, 22, 23, 24, 25, 26, 27, 28, 29, 30, 31, 32, 33, 34, 35, 36, 37, 38, 20, 39, 40, 41, 42, 43, 44, 45, 46, 51, 52, 53, 54, 55, 56, 57] (by decide +kernel) (by decide +kernel)
set_option maxRecDepth 20000 in
theorem gX5_sees_X1_sees : GoodIn wsX5_sees (wsV RX5 36 RX1 yX1_sees wsX1_sees) := goodIn_app (goodIn_of _ (by decide +kernel)) ggX5_sees_X1_sees
theorem dX5_sees_0 : decode cX5_sees 0 = .ok (.aload_n 0, 1) := by decide +kernel
theorem dX5_sees_1 : decode cX5_sees 1 = .ok (.invokevirtual 28, 3) := by decide +kernel
theorem dX5_sees_4 : decode cX5_sees 4 = .ok (.istore 5, 2) := by decide +kernel
theorem dX5_sees_6 : decode cX5_sees 6 = .ok (.iconst 0, 1) := by decide +kernel
theorem dX5_sees_7 : decode cX5_sees 7 = .ok (.istore 6, 2) := by decide +kernel
theorem dX5_sees_9 : decode cX5_sees 9 = .ok (.iload 6, 2) := by decide +kernel
theorem dX5_sees_11 : decode cX5_sees 11 = .ok (.iload 5, 2) := by decide +kernel
theorem dX5_sees_13 : decode cX5_sees 13 = .ok (.if_icmp .ge 32, 3) := by decide +kernel
theorem dX5_sees_16 : decode cX5_sees 16 = .ok (.aload_n 2, 1) := by decide +kernel
theorem dX5_sees_17 : decode cX5_sees 17 = .ok (.aload_n 1, 1) := by decide +kernel
theorem dX5_sees_18 : decode cX5_sees 18 = .ok (.aload_n 0, 1) := by decide +kernel
theorem dX5_sees_19 : decode cX5_sees 19 = .ok (.getfield 7, 3) := by decide +kernel
theorem dX5_sees_22 : decode cX5_sees 22 = .ok (.aload_n 0, 1) := by decide +kernel
theorem dX5_sees_23 : decode cX5_sees 23 = .ok (.iload 6, 2) := by decide +kernel
theorem dX5_sees_25 : decode cX5_sees 25 = .ok (.invokevirtual 32, 3) := by decide +kernel
theorem dX5_sees_28 : decode cX5_sees 28 = .ok (.iload_n 3, 1) := by decide +kernel
theorem dX5_sees_29 : decode cX5_sees 29 = .ok (.iload 4, 2) := by decide +kernel
theorem dX5_sees_31 : decode cX5_sees 31 = .ok (.invokevirtual 36, 3) := by decide +kernel
theorem dX5_sees_34 : decode cX5_sees 34 = .ok (.ifCond .eq 5, 3) := by decide +kernel
theorem dX5_sees_37 : decode cX5_sees 37 = .ok (.iconst 1, 1) := by decide +kernel
theorem dX5_sees_38 : decode cX5_sees 38 = .ok (.ireturn, 1) := by decide +kernel
theorem dX5_sees_39 : decode cX5_sees 39 = .ok (.iinc 6 1, 3) := by decide +kernel
theorem dX5_sees_42 : decode cX5_sees 42 = .ok (.goto (-33), 3) := by decide +kernel
theorem dX5_sees_45 : decode cX5_sees 45 = .ok (.iconst 0, 1) := by decide +kernel
theorem dX5_sees_46 : decode cX5_sees 46 = .ok (.ireturn, 1) := by decide +kernel
set_option maxRecDepth 20000 in
theorem ggX6_init_X5_init : GoodIn wsX6_init wsX5_init := goodIn_r _ [9, 10, 2, 3] (by decide +kernel) (by decide +kernel)
set_option maxRecDepth 20000 in
theorem gX6_init_X5_init_n17 : GoodIn wsX6_init (wsX5_init) := ggX6_init_X5_init
theorem dX6_init_0 : decode cX6_init 0 = .ok (.aload_n 0, 1) := by decide +kernel
theorem dX6_init_1 : decode cX6_init 1 = .ok (.invokespecial 3, 3) := by decide +kernel
theorem dX6_init_4 : decode cX6_init 4 = .ok (.aload_n 0, 1) := by decide +kernel
theorem dX6_init_5 : decode cX6_init 5 = .ok (.bipush 8, 2) := by decide +kernel
theorem dX6_init_7 : decode cX6_init 7 = .ok (.anewarray 9, 3) := by decide +kernel
theorem dX6_init_10 : decode cX6_init 10 = .ok (.putfield 11, 3) := by decide +kernel
theorem dX6_init_13 : decode cX6_init 13 = .ok (.iconst 0, 1) := by decide +kernel
theorem dX6_init_14 : decode cX6_init 14 = .ok (.istore_n 1, 1) := by decide +kernel
theorem dX6_init_15 : decode cX6_init 15 = .ok (.iload_n 1, 1) := by decide +kernel
theorem dX6_init_16 : decode cX6_init 16 = .ok (.aload_n 0, 1) := by decide +kernel
theorem dX6_init_17 : decode cX6_init 17 = .ok (.getfield 11, 3) := by decide +kernel
theorem dX6_init_20 : decode cX6_init 20 = .ok (.arraylength, 1) := by decide +kernel
theorem dX6_init_21 : decode cX6_init 21 = .ok (.if_icmp .ge 22, 3) := by decide +kernel
theorem dX6_init_24 : decode cX6_init 24 = .ok (.aload_n 0, 1) := by decide +kernel
theorem dX6_init_25 : decode cX6_init 25 = .ok (.getfield 11, 3) := by decide +kernel
theorem dX6_init_28 : decode cX6_init 28 = .ok (.iload_n 1, 1) := by decide +kernel
theorem dX6_init_29 : decode cX6_init 29 = .ok (.new 9, 3) := by decide +kernel
theorem dX6_init_32 : decode cX6_init 32 = .ok (.dup, 1) := by decide +kernel
theorem dX6_init_33 : decode cX6_init 33 = .ok (.invokespecial 17, 3) := by decide +kernel
theorem dX6_init_36 : decode cX6_init 36 = .ok (.aastore, 1) := by decide +kernel
theorem dX6_init_37 : decode cX6_init 37 = .ok (.iinc 1 1, 3) := by decide +kernel
theorem dX6_init_40 : decode cX6_init 40 = .ok (.goto (-25), 3) := by decide +kernel
theorem dX6_init_43 : decode cX6_init 43 = .ok (.return_, 1) := by decide +kernel
theorem dX6_clear_0 : decode cX6_clear 0 = .ok (.aload_n 0, 1) := by decide +kernel
theorem dX6_clear_1 : decode cX6_clear 1 = .ok (.iconst 0, 1) := by decide +kernel
theorem dX6_clear_2 : decode cX6_clear 2 = .ok (.putfield 18, 3) := by decide +kernel
theorem dX6_clear_5 : decode cX6_clear 5 = .ok (.return_, 1) := by decide +kernel
set_option maxRecDepth 20000 in
theorem ggX6_find_X6_slot : GoodIn wsX6_find wsX6_slot := goodIn_r _ [6, 7, 8, 9] (by decide +kernel) (by decide +kernel)
set_option maxRecDepth 20000 in
theorem gX6_find_X6_slot : GoodIn wsX6_find (wsV RX6 22 RX6 yX6_slot wsX6_slot) := goodIn_app (goodIn_of _ (by decide +kernel)) ggX6_find_X6_slot
theorem dX6_find_0 : decode cX6_find 0 = .ok (.iload_n 1, 1) := by decide +kernel
theorem dX6_find_1 : decode cX6_find 1 = .ok (.aload_n 0, 1) := by decide +kernel
theorem dX6_find_2 : decode cX6_find 2 = .ok (.getfield 18, 3) := by decide +kernel
theorem dX6_find_5 : decode cX6_find 5 = .ok (.if_icmp .ge 11, 3) := by decide +kernel
theorem dX6_find_8 : decode cX6_find 8 = .ok (.aload_n 0, 1) := by decide +kernel
theorem dX6_find_9 : decode cX6_find 9 = .ok (.iload_n 1, 1) := by decide +kernel
theorem dX6_find_10 : decode cX6_find 10 = .ok (.invokevirtual 22, 3) := by decide +kernel
theorem dX6_find_13 : decode cX6_find 13 = .ok (.goto 4, 3) := by decide +kernel
theorem dX6_find_16 : decode cX6_find 16 = .ok (.aconst_null, 1) := by decide +kernel
theorem dX6_find_17 : decode cX6_find 17 = .ok (.areturn, 1) := by decide +kernel
theorem dX6_slot_0 : decode cX6_slot 0 = .ok (.iload_n 1, 1) := by decide +kernel
theorem dX6_slot_1 : decode cX6_slot 1 = .ok (.ifCond .lt 21, 3) := by decide +kernel
theorem dX6_slot_4 : decode cX6_slot 4 = .ok (.iload_n 1, 1) := by decide +kernel
theorem dX6_slot_5 : decode cX6_slot 5 = .ok (.aload_n 0, 1) := by decide +kernel
theorem dX6_slot_6 : decode cX6_slot 6 = .ok (.getfield 11, 3) := by decide +kernel
theorem dX6_slot_9 : decode cX6_slot 9 = .ok (.arraylength, 1) := by decide +kernel
theorem dX6_slot_10 : decode cX6_slot 10 = .ok (.if_icmp .ge 12, 3) := by decide +kernel
theorem dX6_slot_13 : decode cX6_slot 13 = .ok (.aload_n 0, 1) := by decide +kernel
theorem dX6_slot_14 : decode cX6_slot 14 = .ok (.getfield 11, 3) := by decide +kernel
theorem dX6_slot_17 : decode cX6_slot 17 = .ok (.iload_n 1, 1) := by decide +kernel
theorem dX6_slot_18 : decode cX6_slot 18 = .ok (.aaload, 1) := by decide +kernel
theorem dX6_slot_19 : decode cX6_slot 19 = .ok (.goto 4, 3) := by decide +kernel
theorem dX6_slot_22 : decode cX6_slot 22 = .ok (.aconst_null, 1) := by decide +kernel
theorem dX6_slot_23 : decode cX6_slot 23 = .ok (.areturn, 1) := by decide +kernel
set_option maxRecDepth 20000 in
theorem ggX6_add_X6_slot : GoodIn wsX6_add wsX6_slot := goodIn_r _ [6, 7, 17, 18] (by decide +kernel) (by decide +kernel)
set_option maxRecDepth 20000 in
theorem gX6_add_X6_slot : GoodIn wsX6_add (wsV RX6 22 RX6 yX6_slot wsX6_slot) := goodIn_app (goodIn_of _ (by decide +kernel)) ggX6_add_X6_slot
set_option maxRecDepth 20000 in
theorem ggX6_add_X5_put : GoodIn wsX6_add wsX5_put := goodIn_r _ [12, 13, 14, 15, 16, 19, 20, 21, 22] (by decide +kernel) (by decide +kernel)
set_option maxRecDepth 20000 in
theorem gX6_add_X5_put : GoodIn wsX6_add (wsV RX6 26 RX5 yX5_put wsX5_put) := goodIn_app (goodIn_of _ (by decide +kernel)) ggX6_add_X5_put
theorem dX6_add_0 : decode cX6_add 0 = .ok (.aload_n 0, 1) := by decide +kernel
theorem dX6_add_1 : decode cX6_add 1 = .ok (.aload_n 0, 1) := by decide +kernel
theorem dX6_add_2 : decode cX6_add 2 = .ok (.getfield 18, 3) := by decide +kernel
theorem dX6_add_5 : decode cX6_add 5 = .ok (.invokevirtual 22, 3) := by decide +kernel
theorem dX6_add_8 : decode cX6_add 8 = .ok (.astore 5, 2) := by decide +kernel
theorem dX6_add_10 : decode cX6_add 10 = .ok (.aload 5, 2) := by decide +kernel
theorem dX6_add_12 : decode cX6_add 12 = .ok (.ifnonnull 6, 3) := by decide +kernel
theorem dX6_add_15 : decode cX6_add 15 = .ok (.bipush (-5), 2) := by decide +kernel
theorem dX6_add_17 : decode cX6_add 17 = .ok (.ireturn, 1) := by decide +kernel
theorem dX6_add_18 : decode cX6_add 18 = .ok (.aload 5, 2) := by decide +kernel
theorem dX6_add_20 : decode cX6_add 20 = .ok (.iload_n 1, 1) := by decide +kernel
theorem dX6_add_21 : decode cX6_add 21 = .ok (.iload_n 2, 1) := by decide +kernel
theorem dX6_add_22 : decode cX6_add 22 = .ok (.iload_n 3, 1) := by decide +kernel
theorem dX6_add_23 : decode cX6_add 23 = .ok (.iload 4, 2) := by decide +kernel
theorem dX6_add_25 : decode cX6_add 25 = .ok (.invokevirtual 26, 3) := by decide +kernel
theorem dX6_add_28 : decode cX6_add 28 = .ok (.aload_n 0, 1) := by decide +kernel
theorem dX6_add_29 : decode cX6_add 29 = .ok (.dup, 1) := by decide +kernel
theorem dX6_add_30 : decode cX6_add 30 = .ok (.getfield 18, 3) := by decide +kernel
theorem dX6_add_33 : decode cX6_add 33 = .ok (.iconst 1, 1) := by decide +kernel
theorem dX6_add_34 : decode cX6_add 34 = .ok (.iadd, 1) := by decide +kernel
theorem dX6_add_35 : decode cX6_add 35 = .ok (.putfield 18, 3) := by decide +kernel
theorem dX6_add_38 : decode cX6_add 38 = .ok (.aload_n 0, 1) := by decide +kernel
theorem dX6_add_39 : decode cX6_add 39 = .ok (.getfield 18, 3) := by decide +kernel
theorem dX6_add_42 : decode cX6_add 42 = .ok (.iconst 1, 1) := by decide +kernel
theorem dX6_add_43 : decode cX6_add 43 = .ok (.isub, 1) := by decide +kernel
theorem dX6_add_44 : decode cX6_add 44 = .ok (.ireturn, 1) := by decide +kernel
set_option maxRecDepth 20000 in
theorem ggX6_remove_X6_find : GoodIn wsX6_remove wsX6_find := goodIn_r _ [10, 1, 11, 12, 13, 9, 14, 15, 25, 26] (by decide +kernel) (by decide +kernel)
set_option maxRecDepth 20000 in
theorem gX6_remove_X6_find : GoodIn wsX6_remove (wsV RX6 30 RX6 yX6_find wsX6_find) := goodIn_app (goodIn_of _ (by decide +kernel)) ggX6_remove_X6_find
set_option maxRecDepth 20000 in
theorem ggX6_remove_X5_put : GoodIn wsX6_remove wsX5_put := goodIn_r _ [20, 21, 22, 23, 24, 27, 28, 29, 30] (by decide +kernel) (by decide +kernel)
set_option maxRecDepth 20000 in
theorem gX6_remove_X5_put : GoodIn wsX6_remove (wsV RX6 26 RX5 yX5_put wsX5_put) := goodIn_app (goodIn_of _ (by decide +kernel)) ggX6_remove_X5_put
theorem dX6_remove_0 : decode cX6_remove 0 = .ok (.aload_n 0, 1) := by decide +kernel
theorem dX6_remove_1 : decode cX6_remove 1 = .ok (.iload_n 1, 1) := by decide +kernel
theorem dX6_remove_2 : decode cX6_remove 2 = .ok (.invokevirtual 30, 3) := by decide +kernel
theorem dX6_remove_5 : decode cX6_remove 5 = .ok (.ifnonnull 4, 3) := by decide +kernel
theorem dX6_remove_8 : decode cX6_remove 8 = .ok (.return_, 1) := by decide +kernel
theorem dX6_remove_9 : decode cX6_remove 9 = .ok (.iload_n 1, 1) := by decide +kernel
theorem dX6_remove_10 : decode cX6_remove 10 = .ok (.istore_n 2, 1) := by decide +kernel
theorem dX6_remove_11 : decode cX6_remove 11 = .ok (.iload_n 2, 1) := by decide +kernel
theorem dX6_remove_12 : decode cX6_remove 12 = .ok (.iconst 1, 1) := by decide +kernel
theorem dX6_remove_13 : decode cX6_remove 13 = .ok (.iadd, 1) := by decide +kernel
theorem dX6_remove_14 : decode cX6_remove 14 = .ok (.aload_n 0, 1) := by decide +kernel
theorem dX6_remove_15 : decode cX6_remove 15 = .ok (.getfield 18, 3) := by decide +kernel
theorem dX6_remove_18 : decode cX6_remove 18 = .ok (.if_icmp .ge 57, 3) := by decide +kernel
theorem dX6_remove_21 : decode cX6_remove 21 = .ok (.aload_n 0, 1) := by decide +kernel
theorem dX6_remove_22 : decode cX6_remove 22 = .ok (.iload_n 2, 1) := by decide +kernel
theorem dX6_remove_23 : decode cX6_remove 23 = .ok (.invokevirtual 30, 3) := by decide +kernel
theorem dX6_remove_26 : decode cX6_remove 26 = .ok (.astore_n 3, 1) := by decide +kernel
theorem dX6_remove_27 : decode cX6_remove 27 = .ok (.aload_n 0, 1) := by decide +kernel
theorem dX6_remove_28 : decode cX6_remove 28 = .ok (.iload_n 2, 1) := by decide +kernel
theorem dX6_remove_29 : decode cX6_remove 29 = .ok (.iconst 1, 1) := by decide +kernel
theorem dX6_remove_30 : decode cX6_remove 30 = .ok (.iadd, 1) := by decide +kernel
theorem dX6_remove_31 : decode cX6_remove 31 = .ok (.invokevirtual 30, 3) := by decide +kernel
theorem dX6_remove_34 : decode cX6_remove 34 = .ok (.astore 4, 2) := by decide +kernel
theorem dX6_remove_36 : decode cX6_remove 36 = .ok (.aload_n 3, 1) := by decide +kernel
theorem dX6_remove_37 : decode cX6_remove 37 = .ok (.ifnull 32, 3) := by decide +kernel
theorem dX6_remove_40 : decode cX6_remove 40 = .ok (.aload 4, 2) := by decide +kernel
theorem dX6_remove_42 : decode cX6_remove 42 = .ok (.ifnull 27, 3) := by decide +kernel
theorem dX6_remove_45 : decode cX6_remove 45 = .ok (.aload_n 3, 1) := by decide +kernel
theorem dX6_remove_46 : decode cX6_remove 46 = .ok (.aload 4, 2) := by decide +kernel
theorem dX6_remove_48 : decode cX6_remove 48 = .ok (.getfield 33, 3) := by decide +kernel
theorem dX6_remove_51 : decode cX6_remove 51 = .ok (.aload 4, 2) := by decide +kernel
theorem dX6_remove_53 : decode cX6_remove 53 = .ok (.getfield 36, 3) := by decide +kernel
theorem dX6_remove_56 : decode cX6_remove 56 = .ok (.aload 4, 2) := by decide +kernel
theorem dX6_remove_58 : decode cX6_remove 58 = .ok (.getfield 39, 3) := by decide +kernel
theorem dX6_remove_61 : decode cX6_remove 61 = .ok (.aload 4, 2) := by decide +kernel
theorem dX6_remove_63 : decode cX6_remove 63 = .ok (.getfield 42, 3) := by decide +kernel
theorem dX6_remove_66 : decode cX6_remove 66 = .ok (.invokevirtual 26, 3) := by decide +kernel
theorem dX6_remove_69 : decode cX6_remove 69 = .ok (.iinc 2 1, 3) := by decide +kernel
theorem dX6_remove_72 : decode cX6_remove 72 = .ok (.goto (-61), 3) := by decide +kernel
theorem dX6_remove_75 : decode cX6_remove 75 = .ok (.aload_n 0, 1) := by decide +kernel
theorem dX6_remove_76 : decode cX6_remove 76 = .ok (.dup, 1) := by decide +kernel
theorem dX6_remove_77 : decode cX6_remove 77 = .ok (.getfield 18, 3) := by decide +kernel
theorem dX6_remove_80 : decode cX6_remove 80 = .ok (.iconst 1, 1) := by decide +kernel
theorem dX6_remove_81 : decode cX6_remove 81 = .ok (.isub, 1) := by decide +kernel
theorem dX6_remove_82 : decode cX6_remove 82 = .ok (.putfield 18, 3) := by decide +kernel
theorem dX6_remove_85 : decode cX6_remove 85 = .ok (.return_, 1) := by decide +kernel
set_option maxRecDepth 20000 in
theorem ggX6_layOut_X8_quotient : GoodIn wsX6_layOut wsX8_quotient := goodIn_r _ [6] (by decide +kernel) (by decide +kernel)
set_option maxRecDepth 20000 in
theorem gX6_layOut_X8_quotient_n50 : GoodIn wsX6_layOut (wsX8_quotient) := ggX6_layOut_X8_quotient
set_option maxRecDepth 20000 in
theorem ggX6_layOut_X6_clear : GoodIn wsX6_layOut wsX6_clear := goodIn_r _ [11, 12, 33, 34] (by decide +kernel) (by decide +kernel)
set_option maxRecDepth 20000 in
theorem gX6_layOut_X6_clear : GoodIn wsX6_layOut (wsV RX6 54 RX6 yX6_clear wsX6_clear) := goodIn_app (goodIn_of _ (by decide +kernel)) ggX6_layOut_X6_clear
set_option maxRecDepth 20000 in
theorem ggX6_layOut_X6_add : GoodIn wsX6_layOut wsX6_add := goodIn_r _ [16, 12, 17, 18, 19, 10, 20, 2, 21, 22, 23, 24, 25, 26, 27, 28, 29, 33, 34, 35, 36, 37, 38] (by decide +kernel) (by decide +kernel)
set_option maxRecDepth 20000 in
theorem gX6_layOut_X6_add : GoodIn wsX6_layOut (wsV RX6 60 RX6 yX6_add wsX6_add) := goodIn_app (goodIn_of _ (by decide +kernel)) ggX6_layOut_X6_add
theorem dX6_layOut_0 : decode cX6_layOut 0 = .ok (.iload_n 2, 1) := by decide +kernel
theorem dX6_layOut_1 : decode cX6_layOut 1 = .ok (.iconst 2, 1) := by decide +kernel
theorem dX6_layOut_2 : decode cX6_layOut 2 = .ok (.idiv, 1) := by decide +kernel
theorem dX6_layOut_3 : decode cX6_layOut 3 = .ok (.istore 4, 2) := by decide +kernel
theorem dX6_layOut_5 : decode cX6_layOut 5 = .ok (.aload_n 1, 1) := by decide +kernel
theorem dX6_layOut_6 : decode cX6_layOut 6 = .ok (.getfield 45, 3) := by decide +kernel
theorem dX6_layOut_9 : decode cX6_layOut 9 = .ok (.iconst 1, 1) := by decide +kernel
theorem dX6_layOut_10 : decode cX6_layOut 10 = .ok (.isub, 1) := by decide +kernel
theorem dX6_layOut_11 : decode cX6_layOut 11 = .ok (.iload 4, 2) := by decide +kernel
theorem dX6_layOut_13 : decode cX6_layOut 13 = .ok (.isub, 1) := by decide +kernel
theorem dX6_layOut_14 : decode cX6_layOut 14 = .ok (.iload_n 2, 1) := by decide +kernel
theorem dX6_layOut_15 : decode cX6_layOut 15 = .ok (.invokestatic 50, 3) := by decide +kernel
theorem dX6_layOut_18 : decode cX6_layOut 18 = .ok (.iconst 1, 1) := by decide +kernel
theorem dX6_layOut_19 : decode cX6_layOut 19 = .ok (.iadd, 1) := by decide +kernel
theorem dX6_layOut_20 : decode cX6_layOut 20 = .ok (.istore 5, 2) := by decide +kernel
theorem dX6_layOut_22 : decode cX6_layOut 22 = .ok (.iload 5, 2) := by decide +kernel
theorem dX6_layOut_24 : decode cX6_layOut 24 = .ok (.aload_n 0, 1) := by decide +kernel
theorem dX6_layOut_25 : decode cX6_layOut 25 = .ok (.getfield 11, 3) := by decide +kernel
theorem dX6_layOut_28 : decode cX6_layOut 28 = .ok (.arraylength, 1) := by decide +kernel
theorem dX6_layOut_29 : decode cX6_layOut 29 = .ok (.if_icmp .le 5, 3) := by decide +kernel
theorem dX6_layOut_32 : decode cX6_layOut 32 = .ok (.iconst 0, 1) := by decide +kernel
theorem dX6_layOut_33 : decode cX6_layOut 33 = .ok (.ireturn, 1) := by decide +kernel
theorem dX6_layOut_34 : decode cX6_layOut 34 = .ok (.aload_n 0, 1) := by decide +kernel
theorem dX6_layOut_35 : decode cX6_layOut 35 = .ok (.invokevirtual 54, 3) := by decide +kernel
theorem dX6_layOut_38 : decode cX6_layOut 38 = .ok (.iconst 0, 1) := by decide +kernel
theorem dX6_layOut_39 : decode cX6_layOut 39 = .ok (.istore 6, 2) := by decide +kernel
theorem dX6_layOut_41 : decode cX6_layOut 41 = .ok (.iload 6, 2) := by decide +kernel
theorem dX6_layOut_43 : decode cX6_layOut 43 = .ok (.iload 5, 2) := by decide +kernel
theorem dX6_layOut_45 : decode cX6_layOut 45 = .ok (.if_icmp .ge 29, 3) := by decide +kernel
theorem dX6_layOut_48 : decode cX6_layOut 48 = .ok (.aload_n 0, 1) := by decide +kernel
theorem dX6_layOut_49 : decode cX6_layOut 49 = .ok (.iload 4, 2) := by decide +kernel
theorem dX6_layOut_51 : decode cX6_layOut 51 = .ok (.iload 6, 2) := by decide +kernel
theorem dX6_layOut_53 : decode cX6_layOut 53 = .ok (.iload_n 2, 1) := by decide +kernel
theorem dX6_layOut_54 : decode cX6_layOut 54 = .ok (.imul, 1) := by decide +kernel
theorem dX6_layOut_55 : decode cX6_layOut 55 = .ok (.iadd, 1) := by decide +kernel
theorem dX6_layOut_56 : decode cX6_layOut 56 = .ok (.iconst 0, 1) := by decide +kernel
theorem dX6_layOut_57 : decode cX6_layOut 57 = .ok (.aload_n 1, 1) := by decide +kernel
theorem dX6_layOut_58 : decode cX6_layOut 58 = .ok (.getfield 57, 3) := by decide +kernel
theorem dX6_layOut_61 : decode cX6_layOut 61 = .ok (.iconst 1, 1) := by decide +kernel
theorem dX6_layOut_62 : decode cX6_layOut 62 = .ok (.isub, 1) := by decide +kernel
theorem dX6_layOut_63 : decode cX6_layOut 63 = .ok (.iload_n 3, 1) := by decide +kernel
theorem dX6_layOut_64 : decode cX6_layOut 64 = .ok (.invokevirtual 60, 3) := by decide +kernel
theorem dX6_layOut_67 : decode cX6_layOut 67 = .ok (.pop, 1) := by decide +kernel
theorem dX6_layOut_68 : decode cX6_layOut 68 = .ok (.iinc 6 1, 3) := by decide +kernel
theorem dX6_layOut_71 : decode cX6_layOut 71 = .ok (.goto (-30), 3) := by decide +kernel
theorem dX6_layOut_74 : decode cX6_layOut 74 = .ok (.iconst 1, 1) := by decide +kernel
theorem dX6_layOut_75 : decode cX6_layOut 75 = .ok (.ireturn, 1) := by decide +kernel
set_option maxRecDepth 20000 in
theorem ggX6_photoTotal_X6_find : GoodIn wsX6_photoTotal wsX6_find := goodIn_r _ [6, 1, 7, 8, 9, 5, 10, 11, 23, 24] (by decide +kernel) (by decide +kernel)
set_option maxRecDepth 20000 in
theorem gX6_photoTotal_X6_find : GoodIn wsX6_photoTotal (wsV RX6 30 RX6 yX6_find wsX6_find) := goodIn_app (goodIn_of _ (by decide +kernel)) ggX6_photoTotal_X6_find
set_option maxRecDepth 20000 in
theorem ggX6_photoTotal_X5_photos : GoodIn wsX6_photoTotal wsX5_photos := goodIn_r _ [16, 17, 18, 19, 20, 21, 22, 25, 26, 27, 28] (by decide +kernel) (by decide +kernel)
set_option maxRecDepth 20000 in
theorem gX6_photoTotal_X5_photos : GoodIn wsX6_photoTotal (wsV RX6 64 RX5 yX5_photos wsX5_photos) := goodIn_app (goodIn_of _ (by decide +kernel)) ggX6_photoTotal_X5_photos
theorem dX6_photoTotal_0 : decode cX6_photoTotal 0 = .ok (.iconst 0, 1) := by decide +kernel
theorem dX6_photoTotal_1 : decode cX6_photoTotal 1 = .ok (.istore_n 1, 1) := by decide +kernel
theorem dX6_photoTotal_2 : decode cX6_photoTotal 2 = .ok (.iconst 0, 1) := by decide +kernel
theorem dX6_photoTotal_3 : decode cX6_photoTotal 3 = .ok (.istore_n 2, 1) := by decide +kernel
theorem dX6_photoTotal_4 : decode cX6_photoTotal 4 = .ok (.iload_n 2, 1) := by decide +kernel
theorem dX6_photoTotal_5 : decode cX6_photoTotal 5 = .ok (.aload_n 0, 1) := by decide +kernel
theorem dX6_photoTotal_6 : decode cX6_photoTotal 6 = .ok (.getfield 18, 3) := by decide +kernel
theorem dX6_photoTotal_9 : decode cX6_photoTotal 9 = .ok (.if_icmp .ge 30, 3) := by decide +kernel
theorem dX6_photoTotal_12 : decode cX6_photoTotal 12 = .ok (.aload_n 0, 1) := by decide +kernel
theorem dX6_photoTotal_13 : decode cX6_photoTotal 13 = .ok (.iload_n 2, 1) := by decide +kernel
theorem dX6_photoTotal_14 : decode cX6_photoTotal 14 = .ok (.invokevirtual 30, 3) := by decide +kernel
theorem dX6_photoTotal_17 : decode cX6_photoTotal 17 = .ok (.astore_n 3, 1) := by decide +kernel
theorem dX6_photoTotal_18 : decode cX6_photoTotal 18 = .ok (.iload_n 1, 1) := by decide +kernel
theorem dX6_photoTotal_19 : decode cX6_photoTotal 19 = .ok (.aload_n 3, 1) := by decide +kernel
theorem dX6_photoTotal_20 : decode cX6_photoTotal 20 = .ok (.ifnull 10, 3) := by decide +kernel
theorem dX6_photoTotal_23 : decode cX6_photoTotal 23 = .ok (.aload_n 3, 1) := by decide +kernel
theorem dX6_photoTotal_24 : decode cX6_photoTotal 24 = .ok (.invokevirtual 64, 3) := by decide +kernel
theorem dX6_photoTotal_27 : decode cX6_photoTotal 27 = .ok (.goto 4, 3) := by decide +kernel
theorem dX6_photoTotal_30 : decode cX6_photoTotal 30 = .ok (.iconst 0, 1) := by decide +kernel
theorem dX6_photoTotal_31 : decode cX6_photoTotal 31 = .ok (.iadd, 1) := by decide +kernel
theorem dX6_photoTotal_32 : decode cX6_photoTotal 32 = .ok (.istore_n 1, 1) := by decide +kernel
theorem dX6_photoTotal_33 : decode cX6_photoTotal 33 = .ok (.iinc 2 1, 3) := by decide +kernel
theorem dX6_photoTotal_36 : decode cX6_photoTotal 36 = .ok (.goto (-32), 3) := by decide +kernel
theorem dX6_photoTotal_39 : decode cX6_photoTotal 39 = .ok (.iload_n 1, 1) := by decide +kernel
theorem dX6_photoTotal_40 : decode cX6_photoTotal 40 = .ok (.ireturn, 1) := by decide +kernel
set_option maxRecDepth 20000 in
theorem ggX6_views_X6_find : GoodIn wsX6_views wsX6_find := goodIn_r _ [7, 1, 8, 9, 10, 6, 11, 12, 58, 59] (by decide +kernel) (by decide +kernel)
set_option maxRecDepth 20000 in
theorem gX6_views_X6_find : GoodIn wsX6_views (wsV RX6 30 RX6 yX6_find wsX6_find) := goodIn_app (goodIn_of _ (by decide +kernel)) ggX6_views_X6_find
set_option maxRecDepth 20000 in
theorem ggX6_views_X5_photos : GoodIn wsX6_views wsX5_photos := goodIn_r _ [17, 18, 19, 20, 21, 22, 23, 60, 61, 62, 63] (by decide +kernel) (by decide +kernel)
set_option maxRecDepth 20000 in
theorem gX6_views_X5_photos : GoodIn wsX6_views (wsV RX6 64 RX5 yX5_photos wsX5_photos) := goodIn_app (goodIn_of _ (by decide +kernel)) ggX6_views_X5_photos
set_option maxRecDepth 20000 in
theorem ggX6_views_X5_columnOf : GoodIn wsX6_views wsX5_columnOf := goodIn_r _ [27, 19, 20, 60, 61, 62, 63] (by decide +kernel) (by decide +kernel)
set_option maxRecDepth 20000 in
theorem gX6_views_X5_columnOf : GoodIn wsX6_views (wsV RX6 68 RX5 yX5_columnOf wsX5_columnOf) := goodIn_app (goodIn_of _ (by decide +kernel)) ggX6_views_X5_columnOf
set_option maxRecDepth 20000 in
theorem ggX6_views_X1_sees : GoodIn wsX6_views wsX1_sees := goodIn_r _ [32, 33, 34, 35, 36, 37, 38, 39, 40, 41, 42, 43, 44, 45, 46, 47, 48, 49, 31, 50, 51, 52, 53, 54, 55, 56, 57, 64, 65, 66, 67, 68, 69, 70] (by decide +kernel) (by decide +kernel)
set_option maxRecDepth 20000 in
theorem gX6_views_X1_sees : GoodIn wsX6_views (wsV RX6 72 RX1 yX1_sees wsX1_sees) := goodIn_app (goodIn_of _ (by decide +kernel)) ggX6_views_X1_sees
theorem dX6_views_0 : decode cX6_views 0 = .ok (.iconst 0, 1) := by decide +kernel
theorem dX6_views_1 : decode cX6_views 1 = .ok (.istore 6, 2) := by decide +kernel
theorem dX6_views_3 : decode cX6_views 3 = .ok (.iconst 0, 1) := by decide +kernel
theorem dX6_views_4 : decode cX6_views 4 = .ok (.istore 7, 2) := by decide +kernel
theorem dX6_views_6 : decode cX6_views 6 = .ok (.iload 7, 2) := by decide +kernel
theorem dX6_views_8 : decode cX6_views 8 = .ok (.aload_n 0, 1) := by decide +kernel
theorem dX6_views_9 : decode cX6_views 9 = .ok (.getfield 18, 3) := by decide +kernel
theorem dX6_views_12 : decode cX6_views 12 = .ok (.if_icmp .ge 81, 3) := by decide +kernel
theorem dX6_views_15 : decode cX6_views 15 = .ok (.aload_n 0, 1) := by decide +kernel
theorem dX6_views_16 : decode cX6_views 16 = .ok (.iload 7, 2) := by decide +kernel
theorem dX6_views_18 : decode cX6_views 18 = .ok (.invokevirtual 30, 3) := by decide +kernel
theorem dX6_views_21 : decode cX6_views 21 = .ok (.astore 8, 2) := by decide +kernel
theorem dX6_views_23 : decode cX6_views 23 = .ok (.aload 8, 2) := by decide +kernel
theorem dX6_views_25 : decode cX6_views 25 = .ok (.ifnonnull 6, 3) := by decide +kernel
theorem dX6_views_28 : decode cX6_views 28 = .ok (.iload 6, 2) := by decide +kernel
theorem dX6_views_30 : decode cX6_views 30 = .ok (.ireturn, 1) := by decide +kernel
theorem dX6_views_31 : decode cX6_views 31 = .ok (.aload 8, 2) := by decide +kernel
theorem dX6_views_33 : decode cX6_views 33 = .ok (.invokevirtual 64, 3) := by decide +kernel
theorem dX6_views_36 : decode cX6_views 36 = .ok (.istore 9, 2) := by decide +kernel
theorem dX6_views_38 : decode cX6_views 38 = .ok (.iconst 0, 1) := by decide +kernel
theorem dX6_views_39 : decode cX6_views 39 = .ok (.istore 10, 2) := by decide +kernel
theorem dX6_views_41 : decode cX6_views 41 = .ok (.iload 10, 2) := by decide +kernel
theorem dX6_views_43 : decode cX6_views 43 = .ok (.iload 9, 2) := by decide +kernel
theorem dX6_views_45 : decode cX6_views 45 = .ok (.if_icmp .ge 42, 3) := by decide +kernel
theorem dX6_views_48 : decode cX6_views 48 = .ok (.iload 6, 2) := by decide +kernel
theorem dX6_views_50 : decode cX6_views 50 = .ok (.iload 5, 2) := by decide +kernel
theorem dX6_views_52 : decode cX6_views 52 = .ok (.if_icmp .ge 35, 3) := by decide +kernel
theorem dX6_views_55 : decode cX6_views 55 = .ok (.aload_n 2, 1) := by decide +kernel
theorem dX6_views_56 : decode cX6_views 56 = .ok (.aload_n 1, 1) := by decide +kernel
theorem dX6_views_57 : decode cX6_views 57 = .ok (.aload 8, 2) := by decide +kernel
theorem dX6_views_59 : decode cX6_views 59 = .ok (.getfield 33, 3) := by decide +kernel
theorem dX6_views_62 : decode cX6_views 62 = .ok (.aload 8, 2) := by decide +kernel
theorem dX6_views_64 : decode cX6_views 64 = .ok (.iload 10, 2) := by decide +kernel
theorem dX6_views_66 : decode cX6_views 66 = .ok (.invokevirtual 68, 3) := by decide +kernel
theorem dX6_views_69 : decode cX6_views 69 = .ok (.iload_n 3, 1) := by decide +kernel
theorem dX6_views_70 : decode cX6_views 70 = .ok (.iload 4, 2) := by decide +kernel
theorem dX6_views_72 : decode cX6_views 72 = .ok (.invokevirtual 72, 3) := by decide +kernel
theorem dX6_views_75 : decode cX6_views 75 = .ok (.ifCond .eq 6, 3) := by decide +kernel
theorem dX6_views_78 : decode cX6_views 78 = .ok (.iinc 6 1, 3) := by decide +kernel
theorem dX6_views_81 : decode cX6_views 81 = .ok (.iinc 10 1, 3) := by decide +kernel
theorem dX6_views_84 : decode cX6_views 84 = .ok (.goto (-43), 3) := by decide +kernel
theorem dX6_views_87 : decode cX6_views 87 = .ok (.iinc 7 1, 3) := by decide +kernel
theorem dX6_views_90 : decode cX6_views 90 = .ok (.goto (-84), 3) := by decide +kernel
theorem dX6_views_93 : decode cX6_views 93 = .ok (.iload 6, 2) := by decide +kernel
theorem dX6_views_95 : decode cX6_views 95 = .ok (.ireturn, 1) := by decide +kernel
set_option maxRecDepth 20000 in
theorem ggX6_leavesGap_X6_views : GoodIn wsX6_leavesGap wsX6_views := goodIn_r _ [7, 8, 9, 10, 11, 12, 6, 13, 14, 15, 16, 17, 18, 19, 20, 21, 22, 23, 24, 25, 26, 27, 28, 29, 30, 31, 32, 33, 34, 35, 36, 37, 38, 39, 40, 41, 42, 43, 44, 45, 46, 47, 48, 49, 50, 51, 52, 53, 54, 55, 56, 57, 58, 59, 60, 61, 62, 63, 67, 68, 69, 70, 71, 72, 73, 74, 75, 76, 64, 65, 66] (by decide +kernel) (by decide +kernel)
set_option maxRecDepth 20000 in
theorem gX6_leavesGap_X6_views : GoodIn wsX6_leavesGap (wsV RX6 78 RX6 yX6_views wsX6_views) := goodIn_app (goodIn_of _ (by decide +kernel)) ggX6_leavesGap_X6_views
theorem dX6_leavesGap_0 : decode cX6_leavesGap 0 = .ok (.iconst 0, 1) := by decide +kernel
theorem dX6_leavesGap_1 : decode cX6_leavesGap 1 = .ok (.istore 4, 2) := by decide +kernel
theorem dX6_leavesGap_3 : decode cX6_leavesGap 3 = .ok (.iload 4, 2) := by decide +kernel
theorem dX6_leavesGap_5 : decode cX6_leavesGap 5 = .ok (.aload_n 1, 1) := by decide +kernel
theorem dX6_leavesGap_6 : decode cX6_leavesGap 6 = .ok (.getfield 45, 3) := by decide +kernel
theorem dX6_leavesGap_9 : decode cX6_leavesGap 9 = .ok (.if_icmp .ge 44, 3) := by decide +kernel
theorem dX6_leavesGap_12 : decode cX6_leavesGap 12 = .ok (.iconst 0, 1) := by decide +kernel
theorem dX6_leavesGap_13 : decode cX6_leavesGap 13 = .ok (.istore 5, 2) := by decide +kernel
theorem dX6_leavesGap_15 : decode cX6_leavesGap 15 = .ok (.iload 5, 2) := by decide +kernel
theorem dX6_leavesGap_17 : decode cX6_leavesGap 17 = .ok (.aload_n 1, 1) := by decide +kernel
theorem dX6_leavesGap_18 : decode cX6_leavesGap 18 = .ok (.getfield 57, 3) := by decide +kernel
theorem dX6_leavesGap_21 : decode cX6_leavesGap 21 = .ok (.if_icmp .ge 26, 3) := by decide +kernel
theorem dX6_leavesGap_24 : decode cX6_leavesGap 24 = .ok (.aload_n 0, 1) := by decide +kernel
theorem dX6_leavesGap_25 : decode cX6_leavesGap 25 = .ok (.aload_n 1, 1) := by decide +kernel
theorem dX6_leavesGap_26 : decode cX6_leavesGap 26 = .ok (.aload_n 2, 1) := by decide +kernel
theorem dX6_leavesGap_27 : decode cX6_leavesGap 27 = .ok (.iload 4, 2) := by decide +kernel
theorem dX6_leavesGap_29 : decode cX6_leavesGap 29 = .ok (.iload 5, 2) := by decide +kernel
theorem dX6_leavesGap_31 : decode cX6_leavesGap 31 = .ok (.iload_n 3, 1) := by decide +kernel
theorem dX6_leavesGap_32 : decode cX6_leavesGap 32 = .ok (.invokevirtual 78, 3) := by decide +kernel
theorem dX6_leavesGap_35 : decode cX6_leavesGap 35 = .ok (.iload_n 3, 1) := by decide +kernel
theorem dX6_leavesGap_36 : decode cX6_leavesGap 36 = .ok (.if_icmp .ge 5, 3) := by decide +kernel
theorem dX6_leavesGap_39 : decode cX6_leavesGap 39 = .ok (.iconst 1, 1) := by decide +kernel
theorem dX6_leavesGap_40 : decode cX6_leavesGap 40 = .ok (.ireturn, 1) := by decide +kernel
theorem dX6_leavesGap_41 : decode cX6_leavesGap 41 = .ok (.iinc 5 1, 3) := by decide +kernel
theorem dX6_leavesGap_44 : decode cX6_leavesGap 44 = .ok (.goto (-29), 3) := by decide +kernel
theorem dX6_leavesGap_47 : decode cX6_leavesGap 47 = .ok (.iinc 4 1, 3) := by decide +kernel
theorem dX6_leavesGap_50 : decode cX6_leavesGap 50 = .ok (.goto (-47), 3) := by decide +kernel
theorem dX6_leavesGap_53 : decode cX6_leavesGap 53 = .ok (.iconst 0, 1) := by decide +kernel
theorem dX6_leavesGap_54 : decode cX6_leavesGap 54 = .ok (.ireturn, 1) := by decide +kernel
theorem dX7_init_0 : decode cX7_init 0 = .ok (.aload_n 0, 1) := by decide +kernel
theorem dX7_init_1 : decode cX7_init 1 = .ok (.invokespecial 3, 3) := by decide +kernel
theorem dX7_init_4 : decode cX7_init 4 = .ok (.aload_n 0, 1) := by decide +kernel
theorem dX7_init_5 : decode cX7_init 5 = .ok (.bipush 6, 2) := by decide +kernel
theorem dX7_init_7 : decode cX7_init 7 = .ok (.putfield 9, 3) := by decide +kernel
theorem dX7_init_10 : decode cX7_init 10 = .ok (.aload_n 0, 1) := by decide +kernel
theorem dX7_init_11 : decode cX7_init 11 = .ok (.bipush 10, 2) := by decide +kernel
theorem dX7_init_13 : decode cX7_init 13 = .ok (.putfield 15, 3) := by decide +kernel
theorem dX7_init_16 : decode cX7_init 16 = .ok (.aload_n 0, 1) := by decide +kernel
theorem dX7_init_17 : decode cX7_init 17 = .ok (.sipush 160, 3) := by decide +kernel
theorem dX7_init_20 : decode cX7_init 20 = .ok (.newarray .int, 2) := by decide +kernel
theorem dX7_init_22 : decode cX7_init 22 = .ok (.putfield 18, 3) := by decide +kernel
theorem dX7_init_25 : decode cX7_init 25 = .ok (.return_, 1) := by decide +kernel
theorem dX7_contains_0 : decode cX7_contains 0 = .ok (.iload_n 1, 1) := by decide +kernel
theorem dX7_contains_1 : decode cX7_contains 1 = .ok (.ifCond .lt 27, 3) := by decide +kernel
theorem dX7_contains_4 : decode cX7_contains 4 = .ok (.iload_n 1, 1) := by decide +kernel
theorem dX7_contains_5 : decode cX7_contains 5 = .ok (.aload_n 0, 1) := by decide +kernel
theorem dX7_contains_6 : decode cX7_contains 6 = .ok (.getfield 9, 3) := by decide +kernel
theorem dX7_contains_9 : decode cX7_contains 9 = .ok (.if_icmp .ge 19, 3) := by decide +kernel
theorem dX7_contains_12 : decode cX7_contains 12 = .ok (.iload_n 2, 1) := by decide +kernel
theorem dX7_contains_13 : decode cX7_contains 13 = .ok (.ifCond .lt 15, 3) := by decide +kernel
theorem dX7_contains_16 : decode cX7_contains 16 = .ok (.iload_n 2, 1) := by decide +kernel
theorem dX7_contains_17 : decode cX7_contains 17 = .ok (.aload_n 0, 1) := by decide +kernel
theorem dX7_contains_18 : decode cX7_contains 18 = .ok (.getfield 15, 3) := by decide +kernel
theorem dX7_contains_21 : decode cX7_contains 21 = .ok (.if_icmp .ge 7, 3) := by decide +kernel
theorem dX7_contains_24 : decode cX7_contains 24 = .ok (.iconst 1, 1) := by decide +kernel
theorem dX7_contains_25 : decode cX7_contains 25 = .ok (.goto 4, 3) := by decide +kernel
theorem dX7_contains_28 : decode cX7_contains 28 = .ok (.iconst 0, 1) := by decide +kernel
theorem dX7_contains_29 : decode cX7_contains 29 = .ok (.ireturn, 1) := by decide +kernel
theorem dX7_flatten_0 : decode cX7_flatten 0 = .ok (.aload_n 0, 1) := by decide +kernel
theorem dX7_flatten_1 : decode cX7_flatten 1 = .ok (.iload_n 1, 1) := by decide +kernel
theorem dX7_flatten_2 : decode cX7_flatten 2 = .ok (.putfield 9, 3) := by decide +kernel
theorem dX7_flatten_5 : decode cX7_flatten 5 = .ok (.aload_n 0, 1) := by decide +kernel
theorem dX7_flatten_6 : decode cX7_flatten 6 = .ok (.iload_n 2, 1) := by decide +kernel
theorem dX7_flatten_7 : decode cX7_flatten 7 = .ok (.putfield 15, 3) := by decide +kernel
theorem dX7_flatten_10 : decode cX7_flatten 10 = .ok (.iconst 0, 1) := by decide +kernel
theorem dX7_flatten_11 : decode cX7_flatten 11 = .ok (.istore_n 3, 1) := by decide +kernel
theorem dX7_flatten_12 : decode cX7_flatten 12 = .ok (.iload_n 3, 1) := by decide +kernel
theorem dX7_flatten_13 : decode cX7_flatten 13 = .ok (.aload_n 0, 1) := by decide +kernel
theorem dX7_flatten_14 : decode cX7_flatten 14 = .ok (.getfield 18, 3) := by decide +kernel
theorem dX7_flatten_17 : decode cX7_flatten 17 = .ok (.arraylength, 1) := by decide +kernel
theorem dX7_flatten_18 : decode cX7_flatten 18 = .ok (.if_icmp .ge 16, 3) := by decide +kernel
theorem dX7_flatten_21 : decode cX7_flatten 21 = .ok (.aload_n 0, 1) := by decide +kernel
theorem dX7_flatten_22 : decode cX7_flatten 22 = .ok (.getfield 18, 3) := by decide +kernel
theorem dX7_flatten_25 : decode cX7_flatten 25 = .ok (.iload_n 3, 1) := by decide +kernel
theorem dX7_flatten_26 : decode cX7_flatten 26 = .ok (.iconst 0, 1) := by decide +kernel
theorem dX7_flatten_27 : decode cX7_flatten 27 = .ok (.iastore, 1) := by decide +kernel
theorem dX7_flatten_28 : decode cX7_flatten 28 = .ok (.iinc 3 1, 3) := by decide +kernel
theorem dX7_flatten_31 : decode cX7_flatten 31 = .ok (.goto (-19), 3) := by decide +kernel
theorem dX7_flatten_34 : decode cX7_flatten 34 = .ok (.return_, 1) := by decide +kernel
theorem dX7_heightAt_0 : decode cX7_heightAt 0 = .ok (.iload_n 1, 1) := by decide +kernel
theorem dX7_heightAt_1 : decode cX7_heightAt 1 = .ok (.bipush 16, 2) := by decide +kernel
theorem dX7_heightAt_3 : decode cX7_heightAt 3 = .ok (.imul, 1) := by decide +kernel
theorem dX7_heightAt_4 : decode cX7_heightAt 4 = .ok (.iload_n 2, 1) := by decide +kernel
theorem dX7_heightAt_5 : decode cX7_heightAt 5 = .ok (.iadd, 1) := by decide +kernel
theorem dX7_heightAt_6 : decode cX7_heightAt 6 = .ok (.istore_n 3, 1) := by decide +kernel
theorem dX7_heightAt_7 : decode cX7_heightAt 7 = .ok (.iload_n 3, 1) := by decide +kernel
theorem dX7_heightAt_8 : decode cX7_heightAt 8 = .ok (.ifCond .lt 21, 3) := by decide +kernel
theorem dX7_heightAt_11 : decode cX7_heightAt 11 = .ok (.iload_n 3, 1) := by decide +kernel
theorem dX7_heightAt_12 : decode cX7_heightAt 12 = .ok (.aload_n 0, 1) := by decide +kernel
theorem dX7_heightAt_13 : decode cX7_heightAt 13 = .ok (.getfield 18, 3) := by decide +kernel
theorem dX7_heightAt_16 : decode cX7_heightAt 16 = .ok (.arraylength, 1) := by decide +kernel
theorem dX7_heightAt_17 : decode cX7_heightAt 17 = .ok (.if_icmp .ge 12, 3) := by decide +kernel
theorem dX7_heightAt_20 : decode cX7_heightAt 20 = .ok (.aload_n 0, 1) := by decide +kernel
theorem dX7_heightAt_21 : decode cX7_heightAt 21 = .ok (.getfield 18, 3) := by decide +kernel
theorem dX7_heightAt_24 : decode cX7_heightAt 24 = .ok (.iload_n 3, 1) := by decide +kernel
theorem dX7_heightAt_25 : decode cX7_heightAt 25 = .ok (.iaload, 1) := by decide +kernel
theorem dX7_heightAt_26 : decode cX7_heightAt 26 = .ok (.goto 4, 3) := by decide +kernel
theorem dX7_heightAt_29 : decode cX7_heightAt 29 = .ok (.iconst 0, 1) := by decide +kernel
theorem dX7_heightAt_30 : decode cX7_heightAt 30 = .ok (.ireturn, 1) := by decide +kernel
theorem dX7_put_0 : decode cX7_put 0 = .ok (.iload_n 1, 1) := by decide +kernel
theorem dX7_put_1 : decode cX7_put 1 = .ok (.bipush 16, 2) := by decide +kernel
theorem dX7_put_3 : decode cX7_put 3 = .ok (.imul, 1) := by decide +kernel
theorem dX7_put_4 : decode cX7_put 4 = .ok (.iload_n 2, 1) := by decide +kernel
theorem dX7_put_5 : decode cX7_put 5 = .ok (.iadd, 1) := by decide +kernel
theorem dX7_put_6 : decode cX7_put 6 = .ok (.istore 4, 2) := by decide +kernel
theorem dX7_put_8 : decode cX7_put 8 = .ok (.iload 4, 2) := by decide +kernel
theorem dX7_put_10 : decode cX7_put 10 = .ok (.ifCond .lt 21, 3) := by decide +kernel
theorem dX7_put_13 : decode cX7_put 13 = .ok (.iload 4, 2) := by decide +kernel
theorem dX7_put_15 : decode cX7_put 15 = .ok (.aload_n 0, 1) := by decide +kernel
theorem dX7_put_16 : decode cX7_put 16 = .ok (.getfield 18, 3) := by decide +kernel
theorem dX7_put_19 : decode cX7_put 19 = .ok (.arraylength, 1) := by decide +kernel
theorem dX7_put_20 : decode cX7_put 20 = .ok (.if_icmp .ge 11, 3) := by decide +kernel
theorem dX7_put_23 : decode cX7_put 23 = .ok (.aload_n 0, 1) := by decide +kernel
theorem dX7_put_24 : decode cX7_put 24 = .ok (.getfield 18, 3) := by decide +kernel
theorem dX7_put_27 : decode cX7_put 27 = .ok (.iload 4, 2) := by decide +kernel
theorem dX7_put_29 : decode cX7_put 29 = .ok (.iload_n 3, 1) := by decide +kernel
theorem dX7_put_30 : decode cX7_put 30 = .ok (.iastore, 1) := by decide +kernel
theorem dX7_put_31 : decode cX7_put 31 = .ok (.return_, 1) := by decide +kernel
set_option maxRecDepth 20000 in
theorem ggX7_raise_X8_quotient : GoodIn wsX7_raise wsX8_quotient := goodIn_r _ [15] (by decide +kernel) (by decide +kernel)
set_option maxRecDepth 20000 in
theorem gX7_raise_X8_quotient_n32 : GoodIn wsX7_raise (wsX8_quotient) := ggX7_raise_X8_quotient
set_option maxRecDepth 20000 in
theorem ggX7_raise_X7_heightAt : GoodIn wsX7_raise wsX7_heightAt := goodIn_r _ [20, 21, 26, 27, 28] (by decide +kernel) (by decide +kernel)
set_option maxRecDepth 20000 in
theorem gX7_raise_X7_heightAt : GoodIn wsX7_raise (wsV RX7 35 RX7 yX7_heightAt wsX7_heightAt) := goodIn_app (goodIn_of _ (by decide +kernel)) ggX7_raise_X7_heightAt
set_option maxRecDepth 20000 in
theorem ggX7_raise_X7_put : GoodIn wsX7_raise wsX7_put := goodIn_r _ [25, 21, 26, 27, 28] (by decide +kernel) (by decide +kernel)
set_option maxRecDepth 20000 in
theorem gX7_raise_X7_put : GoodIn wsX7_raise (wsV RX7 41 RX7 yX7_put wsX7_put) := goodIn_app (goodIn_of _ (by decide +kernel)) ggX7_raise_X7_put
theorem dX7_raise_0 : decode cX7_raise 0 = .ok (.iconst 0, 1) := by decide +kernel
theorem dX7_raise_1 : decode cX7_raise 1 = .ok (.istore 5, 2) := by decide +kernel
theorem dX7_raise_3 : decode cX7_raise 3 = .ok (.iconst 0, 1) := by decide +kernel
theorem dX7_raise_4 : decode cX7_raise 4 = .ok (.istore 6, 2) := by decide +kernel
theorem dX7_raise_6 : decode cX7_raise 6 = .ok (.iload 6, 2) := by decide +kernel
theorem dX7_raise_8 : decode cX7_raise 8 = .ok (.aload_n 0, 1) := by decide +kernel
theorem dX7_raise_9 : decode cX7_raise 9 = .ok (.getfield 9, 3) := by decide +kernel
theorem dX7_raise_12 : decode cX7_raise 12 = .ok (.if_icmp .ge 119, 3) := by decide +kernel
theorem dX7_raise_15 : decode cX7_raise 15 = .ok (.iconst 0, 1) := by decide +kernel
theorem dX7_raise_16 : decode cX7_raise 16 = .ok (.istore 7, 2) := by decide +kernel
theorem dX7_raise_18 : decode cX7_raise 18 = .ok (.iload 7, 2) := by decide +kernel
theorem dX7_raise_20 : decode cX7_raise 20 = .ok (.aload_n 0, 1) := by decide +kernel
theorem dX7_raise_21 : decode cX7_raise 21 = .ok (.getfield 15, 3) := by decide +kernel
theorem dX7_raise_24 : decode cX7_raise 24 = .ok (.if_icmp .ge 101, 3) := by decide +kernel
theorem dX7_raise_27 : decode cX7_raise 27 = .ok (.iload 6, 2) := by decide +kernel
