theorem dX9_gapAt_26 : decode cX9_gapAt 26 = .ok (.getfield 51, 3) := by decide +kernel
theorem dX9_gapAt_29 : decode cX9_gapAt 29 = .ok (.imul, 1) := by decide +kernel
theorem dX9_gapAt_30 : decode cX9_gapAt 30 = .ok (.if_icmp .ge 45, 3) := by decide +kernel
theorem dX9_gapAt_33 : decode cX9_gapAt 33 = .ok (.aload_n 0, 1) := by decide +kernel
theorem dX9_gapAt_34 : decode cX9_gapAt 34 = .ok (.iload 4, 2) := by decide +kernel
theorem dX9_gapAt_36 : decode cX9_gapAt 36 = .ok (.invokevirtual 110, 3) := by decide +kernel
theorem dX9_gapAt_39 : decode cX9_gapAt 39 = .ok (.iload_n 1, 1) := by decide +kernel
theorem dX9_gapAt_40 : decode cX9_gapAt 40 = .ok (.if_icmp .ge 29, 3) := by decide +kernel
theorem dX9_gapAt_43 : decode cX9_gapAt 43 = .ok (.iload_n 3, 1) := by decide +kernel
theorem dX9_gapAt_44 : decode cX9_gapAt 44 = .ok (.ifCond .ne 22, 3) := by decide +kernel
theorem dX9_gapAt_47 : decode cX9_gapAt 47 = .ok (.bipush 100, 2) := by decide +kernel
theorem dX9_gapAt_49 : decode cX9_gapAt 49 = .ok (.iload 4, 2) := by decide +kernel
theorem dX9_gapAt_51 : decode cX9_gapAt 51 = .ok (.aload_n 0, 1) := by decide +kernel
theorem dX9_gapAt_52 : decode cX9_gapAt 52 = .ok (.getfield 51, 3) := by decide +kernel
theorem dX9_gapAt_55 : decode cX9_gapAt 55 = .ok (.idiv, 1) := by decide +kernel
theorem dX9_gapAt_56 : decode cX9_gapAt 56 = .ok (.imul, 1) := by decide +kernel
theorem dX9_gapAt_57 : decode cX9_gapAt 57 = .ok (.iload 4, 2) := by decide +kernel
theorem dX9_gapAt_59 : decode cX9_gapAt 59 = .ok (.aload_n 0, 1) := by decide +kernel
theorem dX9_gapAt_60 : decode cX9_gapAt 60 = .ok (.getfield 51, 3) := by decide +kernel
theorem dX9_gapAt_63 : decode cX9_gapAt 63 = .ok (.irem, 1) := by decide +kernel
theorem dX9_gapAt_64 : decode cX9_gapAt 64 = .ok (.iadd, 1) := by decide +kernel
theorem dX9_gapAt_65 : decode cX9_gapAt 65 = .ok (.ireturn, 1) := by decide +kernel
theorem dX9_gapAt_66 : decode cX9_gapAt 66 = .ok (.iinc 3 (-1), 3) := by decide +kernel
theorem dX9_gapAt_69 : decode cX9_gapAt 69 = .ok (.iinc 4 1, 3) := by decide +kernel
theorem dX9_gapAt_72 : decode cX9_gapAt 72 = .ok (.goto (-53), 3) := by decide +kernel
theorem dX9_gapAt_75 : decode cX9_gapAt 75 = .ok (.bipush (-6), 2) := by decide +kernel
theorem dX9_gapAt_77 : decode cX9_gapAt 77 = .ok (.ireturn, 1) := by decide +kernel
theorem dX9_percent_0 : decode cX9_percent 0 = .ok (.iload_n 1, 1) := by decide +kernel
theorem dX9_percent_1 : decode cX9_percent 1 = .ok (.iload_n 2, 1) := by decide +kernel
theorem dX9_percent_2 : decode cX9_percent 2 = .ok (.if_icmp .ge 7, 3) := by decide +kernel
theorem dX9_percent_5 : decode cX9_percent 5 = .ok (.iload_n 1, 1) := by decide +kernel
theorem dX9_percent_6 : decode cX9_percent 6 = .ok (.goto 4, 3) := by decide +kernel
theorem dX9_percent_9 : decode cX9_percent 9 = .ok (.iload_n 2, 1) := by decide +kernel
theorem dX9_percent_10 : decode cX9_percent 10 = .ok (.istore_n 3, 1) := by decide +kernel
theorem dX9_percent_11 : decode cX9_percent 11 = .ok (.iload_n 3, 1) := by decide +kernel
theorem dX9_percent_12 : decode cX9_percent 12 = .ok (.ifCond .ne 7, 3) := by decide +kernel
theorem dX9_percent_15 : decode cX9_percent 15 = .ok (.iconst 0, 1) := by decide +kernel
theorem dX9_percent_16 : decode cX9_percent 16 = .ok (.goto 9, 3) := by decide +kernel
theorem dX9_percent_19 : decode cX9_percent 19 = .ok (.iload_n 0, 1) := by decide +kernel
theorem dX9_percent_20 : decode cX9_percent 20 = .ok (.bipush 100, 2) := by decide +kernel
theorem dX9_percent_22 : decode cX9_percent 22 = .ok (.imul, 1) := by decide +kernel
theorem dX9_percent_23 : decode cX9_percent 23 = .ok (.iload_n 3, 1) := by decide +kernel
theorem dX9_percent_24 : decode cX9_percent 24 = .ok (.idiv, 1) := by decide +kernel
theorem dX9_percent_25 : decode cX9_percent 25 = .ok (.ireturn, 1) := by decide +kernel
set_option maxRecDepth 20000 in
theorem ggX9_forwardOverlap_X9_checkPhoto : GoodIn wsX9_forwardOverlap wsX9_checkPhoto := goodIn_r _ [7, 8, 9, 10, 6, 11, 12, 13, 14, 15, 16, 17, 18, 19, 20, 21, 22, 58, 59, 60, 61, 62, 63, 64, 65, 66, 67, 68, 69, 70, 71, 72, 73, 74, 75, 76, 77] (by decide +kernel) (by decide +kernel)
set_option maxRecDepth 20000 in
theorem gX9_forwardOverlap_X9_checkPhoto : GoodIn wsX9_forwardOverlap (wsV RX9 86 RX9 yX9_checkPhoto wsX9_checkPhoto) := goodIn_app (goodIn_of _ (by decide +kernel)) ggX9_forwardOverlap_X9_checkPhoto
set_option maxRecDepth 20000 in
theorem ggX9_forwardOverlap_X9_photosOf : GoodIn wsX9_forwardOverlap wsX9_photosOf := goodIn_r _ [19, 20, 21, 22, 58, 59, 60, 61, 62, 63, 64, 65, 66, 67, 68, 69, 70, 71, 72, 73, 74, 75, 76, 77] (by decide +kernel) (by decide +kernel)
set_option maxRecDepth 20000 in
theorem gX9_forwardOverlap_X9_photosOf : GoodIn wsX9_forwardOverlap (wsV RX9 83 RX9 yX9_photosOf wsX9_photosOf) := goodIn_app (goodIn_of _ (by decide +kernel)) ggX9_forwardOverlap_X9_photosOf
set_option maxRecDepth 20000 in
theorem ggX9_forwardOverlap_X9_photoSees : GoodIn wsX9_forwardOverlap wsX9_photoSees := goodIn_r _ [26, 27, 2, 28, 29, 30, 6, 31, 21, 22, 32, 33, 34, 35, 36, 37, 38, 39, 40, 41, 42, 43, 44, 45, 46, 47, 48, 49, 50, 58, 59, 60, 61, 62, 63, 64, 65, 66, 67, 68, 69, 70, 71, 72, 73, 74, 75, 76, 77] (by decide +kernel) (by decide +kernel)
set_option maxRecDepth 20000 in
theorem gX9_forwardOverlap_X9_photoSees : GoodIn wsX9_forwardOverlap (wsV RX9 104 RX9 yX9_photoSees wsX9_photoSees) := goodIn_app (goodIn_of _ (by decide +kernel)) ggX9_forwardOverlap_X9_photoSees
set_option maxRecDepth 20000 in
theorem ggX9_forwardOverlap_X9_footprint : GoodIn wsX9_forwardOverlap wsX9_footprint := goodIn_r _ [54, 1, 2, 23, 24, 25, 6, 26, 27, 28, 29, 30, 31, 21, 22, 32, 33, 34, 35, 36, 37, 38, 39, 40, 41, 42, 43, 44, 45, 46, 47, 48, 49, 50, 58, 59, 60, 61, 62, 63, 64, 65, 66, 67, 68, 69, 70, 71, 72, 73, 74, 75, 76, 77] (by decide +kernel) (by decide +kernel)
set_option maxRecDepth 20000 in
theorem gX9_forwardOverlap_X9_footprint : GoodIn wsX9_forwardOverlap (wsV RX9 107 RX9 yX9_footprint wsX9_footprint) := goodIn_app (goodIn_of _ (by decide +kernel)) ggX9_forwardOverlap_X9_footprint
set_option maxRecDepth 20000 in
theorem ggX9_forwardOverlap_X9_percent : GoodIn wsX9_forwardOverlap wsX9_percent := goodIn_r _ [57] (by decide +kernel) (by decide +kernel)
set_option maxRecDepth 20000 in
theorem gX9_forwardOverlap_X9_percent : GoodIn wsX9_forwardOverlap (va_wsS RX9 116 yX9_percent wsX9_percent) := goodIn_app (goodIn_of _ (by decide +kernel)) ggX9_forwardOverlap_X9_percent
theorem dX9_forwardOverlap_0 : decode cX9_forwardOverlap 0 = .ok (.aload_n 0, 1) := by decide +kernel
theorem dX9_forwardOverlap_1 : decode cX9_forwardOverlap 1 = .ok (.iload_n 1, 1) := by decide +kernel
theorem dX9_forwardOverlap_2 : decode cX9_forwardOverlap 2 = .ok (.iload_n 2, 1) := by decide +kernel
theorem dX9_forwardOverlap_3 : decode cX9_forwardOverlap 3 = .ok (.invokevirtual 86, 3) := by decide +kernel
theorem dX9_forwardOverlap_6 : decode cX9_forwardOverlap 6 = .ok (.istore_n 3, 1) := by decide +kernel
theorem dX9_forwardOverlap_7 : decode cX9_forwardOverlap 7 = .ok (.iload_n 3, 1) := by decide +kernel
theorem dX9_forwardOverlap_8 : decode cX9_forwardOverlap 8 = .ok (.ifCond .ne 17, 3) := by decide +kernel
theorem dX9_forwardOverlap_11 : decode cX9_forwardOverlap 11 = .ok (.iload_n 2, 1) := by decide +kernel
theorem dX9_forwardOverlap_12 : decode cX9_forwardOverlap 12 = .ok (.iconst 1, 1) := by decide +kernel
theorem dX9_forwardOverlap_13 : decode cX9_forwardOverlap 13 = .ok (.iadd, 1) := by decide +kernel
theorem dX9_forwardOverlap_14 : decode cX9_forwardOverlap 14 = .ok (.aload_n 0, 1) := by decide +kernel
theorem dX9_forwardOverlap_15 : decode cX9_forwardOverlap 15 = .ok (.iload_n 1, 1) := by decide +kernel
theorem dX9_forwardOverlap_16 : decode cX9_forwardOverlap 16 = .ok (.invokevirtual 83, 3) := by decide +kernel
theorem dX9_forwardOverlap_19 : decode cX9_forwardOverlap 19 = .ok (.if_icmp .ne 6, 3) := by decide +kernel
theorem dX9_forwardOverlap_22 : decode cX9_forwardOverlap 22 = .ok (.bipush (-3), 2) := by decide +kernel
theorem dX9_forwardOverlap_24 : decode cX9_forwardOverlap 24 = .ok (.istore_n 3, 1) := by decide +kernel
theorem dX9_forwardOverlap_25 : decode cX9_forwardOverlap 25 = .ok (.iload_n 3, 1) := by decide +kernel
theorem dX9_forwardOverlap_26 : decode cX9_forwardOverlap 26 = .ok (.ifCond .ge 5, 3) := by decide +kernel
theorem dX9_forwardOverlap_29 : decode cX9_forwardOverlap 29 = .ok (.iload_n 3, 1) := by decide +kernel
theorem dX9_forwardOverlap_30 : decode cX9_forwardOverlap 30 = .ok (.ireturn, 1) := by decide +kernel
theorem dX9_forwardOverlap_31 : decode cX9_forwardOverlap 31 = .ok (.iconst 0, 1) := by decide +kernel
theorem dX9_forwardOverlap_32 : decode cX9_forwardOverlap 32 = .ok (.istore 4, 2) := by decide +kernel
theorem dX9_forwardOverlap_34 : decode cX9_forwardOverlap 34 = .ok (.iconst 0, 1) := by decide +kernel
theorem dX9_forwardOverlap_35 : decode cX9_forwardOverlap 35 = .ok (.istore 5, 2) := by decide +kernel
theorem dX9_forwardOverlap_37 : decode cX9_forwardOverlap 37 = .ok (.iload 5, 2) := by decide +kernel
theorem dX9_forwardOverlap_39 : decode cX9_forwardOverlap 39 = .ok (.aload_n 0, 1) := by decide +kernel
theorem dX9_forwardOverlap_40 : decode cX9_forwardOverlap 40 = .ok (.getfield 48, 3) := by decide +kernel
theorem dX9_forwardOverlap_43 : decode cX9_forwardOverlap 43 = .ok (.aload_n 0, 1) := by decide +kernel
theorem dX9_forwardOverlap_44 : decode cX9_forwardOverlap 44 = .ok (.getfield 51, 3) := by decide +kernel
theorem dX9_forwardOverlap_47 : decode cX9_forwardOverlap 47 = .ok (.imul, 1) := by decide +kernel
theorem dX9_forwardOverlap_48 : decode cX9_forwardOverlap 48 = .ok (.if_icmp .ge 43, 3) := by decide +kernel
theorem dX9_forwardOverlap_51 : decode cX9_forwardOverlap 51 = .ok (.iload 4, 2) := by decide +kernel
theorem dX9_forwardOverlap_53 : decode cX9_forwardOverlap 53 = .ok (.aload_n 0, 1) := by decide +kernel
theorem dX9_forwardOverlap_54 : decode cX9_forwardOverlap 54 = .ok (.iload_n 1, 1) := by decide +kernel
theorem dX9_forwardOverlap_55 : decode cX9_forwardOverlap 55 = .ok (.iload_n 2, 1) := by decide +kernel
theorem dX9_forwardOverlap_56 : decode cX9_forwardOverlap 56 = .ok (.iload 5, 2) := by decide +kernel
theorem dX9_forwardOverlap_58 : decode cX9_forwardOverlap 58 = .ok (.invokevirtual 104, 3) := by decide +kernel
theorem dX9_forwardOverlap_61 : decode cX9_forwardOverlap 61 = .ok (.ifCond .eq 20, 3) := by decide +kernel
theorem dX9_forwardOverlap_64 : decode cX9_forwardOverlap 64 = .ok (.aload_n 0, 1) := by decide +kernel
theorem dX9_forwardOverlap_65 : decode cX9_forwardOverlap 65 = .ok (.iload_n 1, 1) := by decide +kernel
theorem dX9_forwardOverlap_66 : decode cX9_forwardOverlap 66 = .ok (.iload_n 2, 1) := by decide +kernel
theorem dX9_forwardOverlap_67 : decode cX9_forwardOverlap 67 = .ok (.iconst 1, 1) := by decide +kernel
theorem dX9_forwardOverlap_68 : decode cX9_forwardOverlap 68 = .ok (.iadd, 1) := by decide +kernel
theorem dX9_forwardOverlap_69 : decode cX9_forwardOverlap 69 = .ok (.iload 5, 2) := by decide +kernel
theorem dX9_forwardOverlap_71 : decode cX9_forwardOverlap 71 = .ok (.invokevirtual 104, 3) := by decide +kernel
theorem dX9_forwardOverlap_74 : decode cX9_forwardOverlap 74 = .ok (.ifCond .eq 7, 3) := by decide +kernel
theorem dX9_forwardOverlap_77 : decode cX9_forwardOverlap 77 = .ok (.iconst 1, 1) := by decide +kernel
theorem dX9_forwardOverlap_78 : decode cX9_forwardOverlap 78 = .ok (.goto 4, 3) := by decide +kernel
theorem dX9_forwardOverlap_81 : decode cX9_forwardOverlap 81 = .ok (.iconst 0, 1) := by decide +kernel
theorem dX9_forwardOverlap_82 : decode cX9_forwardOverlap 82 = .ok (.iadd, 1) := by decide +kernel
theorem dX9_forwardOverlap_83 : decode cX9_forwardOverlap 83 = .ok (.istore 4, 2) := by decide +kernel
theorem dX9_forwardOverlap_85 : decode cX9_forwardOverlap 85 = .ok (.iinc 5 1, 3) := by decide +kernel
theorem dX9_forwardOverlap_88 : decode cX9_forwardOverlap 88 = .ok (.goto (-51), 3) := by decide +kernel
theorem dX9_forwardOverlap_91 : decode cX9_forwardOverlap 91 = .ok (.iload 4, 2) := by decide +kernel
theorem dX9_forwardOverlap_93 : decode cX9_forwardOverlap 93 = .ok (.aload_n 0, 1) := by decide +kernel
theorem dX9_forwardOverlap_94 : decode cX9_forwardOverlap 94 = .ok (.iload_n 1, 1) := by decide +kernel
theorem dX9_forwardOverlap_95 : decode cX9_forwardOverlap 95 = .ok (.iload_n 2, 1) := by decide +kernel
theorem dX9_forwardOverlap_96 : decode cX9_forwardOverlap 96 = .ok (.invokevirtual 107, 3) := by decide +kernel
theorem dX9_forwardOverlap_99 : decode cX9_forwardOverlap 99 = .ok (.aload_n 0, 1) := by decide +kernel
theorem dX9_forwardOverlap_100 : decode cX9_forwardOverlap 100 = .ok (.iload_n 1, 1) := by decide +kernel
theorem dX9_forwardOverlap_101 : decode cX9_forwardOverlap 101 = .ok (.iload_n 2, 1) := by decide +kernel
theorem dX9_forwardOverlap_102 : decode cX9_forwardOverlap 102 = .ok (.iconst 1, 1) := by decide +kernel
theorem dX9_forwardOverlap_103 : decode cX9_forwardOverlap 103 = .ok (.iadd, 1) := by decide +kernel
theorem dX9_forwardOverlap_104 : decode cX9_forwardOverlap 104 = .ok (.invokevirtual 107, 3) := by decide +kernel
theorem dX9_forwardOverlap_107 : decode cX9_forwardOverlap 107 = .ok (.invokestatic 116, 3) := by decide +kernel
theorem dX9_forwardOverlap_110 : decode cX9_forwardOverlap 110 = .ok (.ireturn, 1) := by decide +kernel
set_option maxRecDepth 20000 in
theorem ggX9_stripSees_X9_photosOf : GoodIn wsX9_stripSees wsX9_photosOf := goodIn_r _ [5, 6, 7, 8, 38, 39, 40, 41, 42, 43, 44, 45, 46, 47, 48, 49, 50, 51, 52, 53, 54, 55, 56, 57] (by decide +kernel) (by decide +kernel)
set_option maxRecDepth 20000 in
theorem gX9_stripSees_X9_photosOf : GoodIn wsX9_stripSees (wsV RX9 83 RX9 yX9_photosOf wsX9_photosOf) := goodIn_app (goodIn_of _ (by decide +kernel)) ggX9_stripSees_X9_photosOf
set_option maxRecDepth 20000 in
theorem ggX9_stripSees_X9_photoSees : GoodIn wsX9_stripSees wsX9_photoSees := goodIn_r _ [12, 13, 14, 15, 16, 17, 4, 18, 7, 8, 19, 20, 21, 22, 23, 24, 25, 26, 27, 28, 29, 30, 31, 32, 33, 34, 35, 36, 37, 38, 39, 40, 41, 42, 43, 44, 45, 46, 47, 48, 49, 50, 51, 52, 53, 54, 55, 56, 57] (by decide +kernel) (by decide +kernel)
set_option maxRecDepth 20000 in
theorem gX9_stripSees_X9_photoSees : GoodIn wsX9_stripSees (wsV RX9 104 RX9 yX9_photoSees wsX9_photoSees) := goodIn_app (goodIn_of _ (by decide +kernel)) ggX9_stripSees_X9_photoSees
theorem dX9_stripSees_0 : decode cX9_stripSees 0 = .ok (.iconst 0, 1) := by decide +kernel
theorem dX9_stripSees_1 : decode cX9_stripSees 1 = .ok (.istore_n 3, 1) := by decide +kernel
theorem dX9_stripSees_2 : decode cX9_stripSees 2 = .ok (.iload_n 3, 1) := by decide +kernel
theorem dX9_stripSees_3 : decode cX9_stripSees 3 = .ok (.aload_n 0, 1) := by decide +kernel
theorem dX9_stripSees_4 : decode cX9_stripSees 4 = .ok (.iload_n 1, 1) := by decide +kernel
theorem dX9_stripSees_5 : decode cX9_stripSees 5 = .ok (.invokevirtual 83, 3) := by decide +kernel
theorem dX9_stripSees_8 : decode cX9_stripSees 8 = .ok (.if_icmp .ge 21, 3) := by decide +kernel
theorem dX9_stripSees_11 : decode cX9_stripSees 11 = .ok (.aload_n 0, 1) := by decide +kernel
theorem dX9_stripSees_12 : decode cX9_stripSees 12 = .ok (.iload_n 1, 1) := by decide +kernel
theorem dX9_stripSees_13 : decode cX9_stripSees 13 = .ok (.iload_n 3, 1) := by decide +kernel
theorem dX9_stripSees_14 : decode cX9_stripSees 14 = .ok (.iload_n 2, 1) := by decide +kernel
theorem dX9_stripSees_15 : decode cX9_stripSees 15 = .ok (.invokevirtual 104, 3) := by decide +kernel
theorem dX9_stripSees_18 : decode cX9_stripSees 18 = .ok (.ifCond .eq 5, 3) := by decide +kernel
theorem dX9_stripSees_21 : decode cX9_stripSees 21 = .ok (.iconst 1, 1) := by decide +kernel
theorem dX9_stripSees_22 : decode cX9_stripSees 22 = .ok (.ireturn, 1) := by decide +kernel
theorem dX9_stripSees_23 : decode cX9_stripSees 23 = .ok (.iinc 3 1, 3) := by decide +kernel
theorem dX9_stripSees_26 : decode cX9_stripSees 26 = .ok (.goto (-24), 3) := by decide +kernel
theorem dX9_stripSees_29 : decode cX9_stripSees 29 = .ok (.iconst 0, 1) := by decide +kernel
theorem dX9_stripSees_30 : decode cX9_stripSees 30 = .ok (.ireturn, 1) := by decide +kernel
set_option maxRecDepth 20000 in
theorem ggX9_sideOverlap_X9_isStrip : GoodIn wsX9_sideOverlap wsX9_isStrip := goodIn_r _ [7, 8, 9, 10, 6, 11, 54, 55, 56, 57, 58, 59, 60, 61, 62, 63, 64, 65, 66, 67, 68, 69, 70, 71, 72, 73] (by decide +kernel) (by decide +kernel)
set_option maxRecDepth 20000 in
theorem gX9_sideOverlap_X9_isStrip : GoodIn wsX9_sideOverlap (wsV RX9 79 RX9 yX9_isStrip wsX9_isStrip) := goodIn_app (goodIn_of _ (by decide +kernel)) ggX9_sideOverlap_X9_isStrip
set_option maxRecDepth 20000 in
theorem ggX9_sideOverlap_X9_stripSees : GoodIn wsX9_sideOverlap wsX9_stripSees := goodIn_r _ [15, 16, 17, 18, 6, 19, 20, 21, 22, 23, 24, 25, 26, 27, 2, 28, 29, 30, 31, 32, 33, 34, 35, 36, 37, 38, 39, 40, 41, 42, 43, 44, 45, 46, 47, 48, 49, 50, 54, 55, 56, 57, 58, 59, 60, 61, 62, 63, 64, 65, 66, 67, 68, 69, 70, 71, 72, 73] (by decide +kernel) (by decide +kernel)
set_option maxRecDepth 20000 in
theorem gX9_sideOverlap_X9_stripSees : GoodIn wsX9_sideOverlap (wsV RX9 120 RX9 yX9_stripSees wsX9_stripSees) := goodIn_app (goodIn_of _ (by decide +kernel)) ggX9_sideOverlap_X9_stripSees
set_option maxRecDepth 20000 in
theorem ggX9_sideOverlap_X9_percent : GoodIn wsX9_sideOverlap wsX9_percent := goodIn_r _ [53] (by decide +kernel) (by decide +kernel)
set_option maxRecDepth 20000 in
theorem gX9_sideOverlap_X9_percent : GoodIn wsX9_sideOverlap (va_wsS RX9 116 yX9_percent wsX9_percent) := goodIn_app (goodIn_of _ (by decide +kernel)) ggX9_sideOverlap_X9_percent
theorem dX9_sideOverlap_0 : decode cX9_sideOverlap 0 = .ok (.aload_n 0, 1) := by decide +kernel
theorem dX9_sideOverlap_1 : decode cX9_sideOverlap 1 = .ok (.iload_n 1, 1) := by decide +kernel
theorem dX9_sideOverlap_2 : decode cX9_sideOverlap 2 = .ok (.invokevirtual 79, 3) := by decide +kernel
theorem dX9_sideOverlap_5 : decode cX9_sideOverlap 5 = .ok (.ifCond .eq 11, 3) := by decide +kernel
theorem dX9_sideOverlap_8 : decode cX9_sideOverlap 8 = .ok (.aload_n 0, 1) := by decide +kernel
theorem dX9_sideOverlap_9 : decode cX9_sideOverlap 9 = .ok (.iload_n 2, 1) := by decide +kernel
theorem dX9_sideOverlap_10 : decode cX9_sideOverlap 10 = .ok (.invokevirtual 79, 3) := by decide +kernel
theorem dX9_sideOverlap_13 : decode cX9_sideOverlap 13 = .ok (.ifCond .ne 6, 3) := by decide +kernel
theorem dX9_sideOverlap_16 : decode cX9_sideOverlap 16 = .ok (.bipush (-2), 2) := by decide +kernel
theorem dX9_sideOverlap_18 : decode cX9_sideOverlap 18 = .ok (.ireturn, 1) := by decide +kernel
theorem dX9_sideOverlap_19 : decode cX9_sideOverlap 19 = .ok (.iconst 0, 1) := by decide +kernel
theorem dX9_sideOverlap_20 : decode cX9_sideOverlap 20 = .ok (.istore_n 3, 1) := by decide +kernel
theorem dX9_sideOverlap_21 : decode cX9_sideOverlap 21 = .ok (.iconst 0, 1) := by decide +kernel
theorem dX9_sideOverlap_22 : decode cX9_sideOverlap 22 = .ok (.istore 4, 2) := by decide +kernel
theorem dX9_sideOverlap_24 : decode cX9_sideOverlap 24 = .ok (.iconst 0, 1) := by decide +kernel
theorem dX9_sideOverlap_25 : decode cX9_sideOverlap 25 = .ok (.istore 5, 2) := by decide +kernel
theorem dX9_sideOverlap_27 : decode cX9_sideOverlap 27 = .ok (.iconst 0, 1) := by decide +kernel
theorem dX9_sideOverlap_28 : decode cX9_sideOverlap 28 = .ok (.istore 6, 2) := by decide +kernel
theorem dX9_sideOverlap_30 : decode cX9_sideOverlap 30 = .ok (.iload 6, 2) := by decide +kernel
theorem dX9_sideOverlap_32 : decode cX9_sideOverlap 32 = .ok (.aload_n 0, 1) := by decide +kernel
theorem dX9_sideOverlap_33 : decode cX9_sideOverlap 33 = .ok (.getfield 48, 3) := by decide +kernel
theorem dX9_sideOverlap_36 : decode cX9_sideOverlap 36 = .ok (.aload_n 0, 1) := by decide +kernel
theorem dX9_sideOverlap_37 : decode cX9_sideOverlap 37 = .ok (.getfield 51, 3) := by decide +kernel
theorem dX9_sideOverlap_40 : decode cX9_sideOverlap 40 = .ok (.imul, 1) := by decide +kernel
theorem dX9_sideOverlap_41 : decode cX9_sideOverlap 41 = .ok (.if_icmp .ge 75, 3) := by decide +kernel
theorem dX9_sideOverlap_44 : decode cX9_sideOverlap 44 = .ok (.aload_n 0, 1) := by decide +kernel
theorem dX9_sideOverlap_45 : decode cX9_sideOverlap 45 = .ok (.iload_n 1, 1) := by decide +kernel
theorem dX9_sideOverlap_46 : decode cX9_sideOverlap 46 = .ok (.iload 6, 2) := by decide +kernel
theorem dX9_sideOverlap_48 : decode cX9_sideOverlap 48 = .ok (.invokevirtual 120, 3) := by decide +kernel
theorem dX9_sideOverlap_51 : decode cX9_sideOverlap 51 = .ok (.istore 7, 2) := by decide +kernel
theorem dX9_sideOverlap_53 : decode cX9_sideOverlap 53 = .ok (.aload_n 0, 1) := by decide +kernel
theorem dX9_sideOverlap_54 : decode cX9_sideOverlap 54 = .ok (.iload_n 2, 1) := by decide +kernel
theorem dX9_sideOverlap_55 : decode cX9_sideOverlap 55 = .ok (.iload 6, 2) := by decide +kernel
theorem dX9_sideOverlap_57 : decode cX9_sideOverlap 57 = .ok (.invokevirtual 120, 3) := by decide +kernel
theorem dX9_sideOverlap_60 : decode cX9_sideOverlap 60 = .ok (.istore 8, 2) := by decide +kernel
theorem dX9_sideOverlap_62 : decode cX9_sideOverlap 62 = .ok (.iload_n 3, 1) := by decide +kernel
theorem dX9_sideOverlap_63 : decode cX9_sideOverlap 63 = .ok (.iload 7, 2) := by decide +kernel
theorem dX9_sideOverlap_65 : decode cX9_sideOverlap 65 = .ok (.ifCond .eq 12, 3) := by decide +kernel
theorem dX9_sideOverlap_68 : decode cX9_sideOverlap 68 = .ok (.iload 8, 2) := by decide +kernel
theorem dX9_sideOverlap_70 : decode cX9_sideOverlap 70 = .ok (.ifCond .eq 7, 3) := by decide +kernel
theorem dX9_sideOverlap_73 : decode cX9_sideOverlap 73 = .ok (.iconst 1, 1) := by decide +kernel
theorem dX9_sideOverlap_74 : decode cX9_sideOverlap 74 = .ok (.goto 4, 3) := by decide +kernel
theorem dX9_sideOverlap_77 : decode cX9_sideOverlap 77 = .ok (.iconst 0, 1) := by decide +kernel
theorem dX9_sideOverlap_78 : decode cX9_sideOverlap 78 = .ok (.iadd, 1) := by decide +kernel
theorem dX9_sideOverlap_79 : decode cX9_sideOverlap 79 = .ok (.istore_n 3, 1) := by decide +kernel
theorem dX9_sideOverlap_80 : decode cX9_sideOverlap 80 = .ok (.iload 4, 2) := by decide +kernel
theorem dX9_sideOverlap_82 : decode cX9_sideOverlap 82 = .ok (.iload 7, 2) := by decide +kernel
theorem dX9_sideOverlap_84 : decode cX9_sideOverlap 84 = .ok (.ifCond .eq 7, 3) := by decide +kernel
theorem dX9_sideOverlap_87 : decode cX9_sideOverlap 87 = .ok (.iconst 1, 1) := by decide +kernel
theorem dX9_sideOverlap_88 : decode cX9_sideOverlap 88 = .ok (.goto 4, 3) := by decide +kernel
theorem dX9_sideOverlap_91 : decode cX9_sideOverlap 91 = .ok (.iconst 0, 1) := by decide +kernel
theorem dX9_sideOverlap_92 : decode cX9_sideOverlap 92 = .ok (.iadd, 1) := by decide +kernel
theorem dX9_sideOverlap_93 : decode cX9_sideOverlap 93 = .ok (.istore 4, 2) := by decide +kernel
theorem dX9_sideOverlap_95 : decode cX9_sideOverlap 95 = .ok (.iload 5, 2) := by decide +kernel
theorem dX9_sideOverlap_97 : decode cX9_sideOverlap 97 = .ok (.iload 8, 2) := by decide +kernel
theorem dX9_sideOverlap_99 : decode cX9_sideOverlap 99 = .ok (.ifCond .eq 7, 3) := by decide +kernel
theorem dX9_sideOverlap_102 : decode cX9_sideOverlap 102 = .ok (.iconst 1, 1) := by decide +kernel
theorem dX9_sideOverlap_103 : decode cX9_sideOverlap 103 = .ok (.goto 4, 3) := by decide +kernel
theorem dX9_sideOverlap_106 : decode cX9_sideOverlap 106 = .ok (.iconst 0, 1) := by decide +kernel
theorem dX9_sideOverlap_107 : decode cX9_sideOverlap 107 = .ok (.iadd, 1) := by decide +kernel
theorem dX9_sideOverlap_108 : decode cX9_sideOverlap 108 = .ok (.istore 5, 2) := by decide +kernel
theorem dX9_sideOverlap_110 : decode cX9_sideOverlap 110 = .ok (.iinc 6 1, 3) := by decide +kernel
theorem dX9_sideOverlap_113 : decode cX9_sideOverlap 113 = .ok (.goto (-83), 3) := by decide +kernel
theorem dX9_sideOverlap_116 : decode cX9_sideOverlap 116 = .ok (.iload_n 3, 1) := by decide +kernel
theorem dX9_sideOverlap_117 : decode cX9_sideOverlap 117 = .ok (.iload 4, 2) := by decide +kernel
theorem dX9_sideOverlap_119 : decode cX9_sideOverlap 119 = .ok (.iload 5, 2) := by decide +kernel
theorem dX9_sideOverlap_121 : decode cX9_sideOverlap 121 = .ok (.invokestatic 116, 3) := by decide +kernel
theorem dX9_sideOverlap_124 : decode cX9_sideOverlap 124 = .ok (.ireturn, 1) := by decide +kernel
set_option maxRecDepth 20000 in
theorem ggX9_layOutVisibility_X9_sees : GoodIn wsX9_layOutVisibility wsX9_sees := goodIn_r _ [8, 9, 10, 11, 12, 13, 14, 15, 7, 16, 17, 18, 19, 20, 21, 22, 23, 24, 25, 26, 27, 28, 29, 30, 31, 32, 33, 34, 35, 36, 37, 38, 39, 40, 41, 42, 43] (by decide +kernel) (by decide +kernel)
set_option maxRecDepth 20000 in
theorem gX9_layOutVisibility_X9_sees : GoodIn wsX9_layOutVisibility (wsV RX9 100 RX9 yX9_sees wsX9_sees) := goodIn_app (goodIn_of _ (by decide +kernel)) ggX9_layOutVisibility_X9_sees
theorem dX9_layOutVisibility_0 : decode cX9_layOutVisibility 0 = .ok (.aload_n 0, 1) := by decide +kernel
theorem dX9_layOutVisibility_1 : decode cX9_layOutVisibility 1 = .ok (.getfield 48, 3) := by decide +kernel
theorem dX9_layOutVisibility_4 : decode cX9_layOutVisibility 4 = .ok (.aload_n 0, 1) := by decide +kernel
theorem dX9_layOutVisibility_5 : decode cX9_layOutVisibility 5 = .ok (.getfield 51, 3) := by decide +kernel
theorem dX9_layOutVisibility_8 : decode cX9_layOutVisibility 8 = .ok (.imul, 1) := by decide +kernel
theorem dX9_layOutVisibility_9 : decode cX9_layOutVisibility 9 = .ok (.istore_n 1, 1) := by decide +kernel
theorem dX9_layOutVisibility_10 : decode cX9_layOutVisibility 10 = .ok (.iconst 0, 1) := by decide +kernel
theorem dX9_layOutVisibility_11 : decode cX9_layOutVisibility 11 = .ok (.istore_n 2, 1) := by decide +kernel
theorem dX9_layOutVisibility_12 : decode cX9_layOutVisibility 12 = .ok (.iload_n 2, 1) := by decide +kernel
theorem dX9_layOutVisibility_13 : decode cX9_layOutVisibility 13 = .ok (.iload_n 1, 1) := by decide +kernel
theorem dX9_layOutVisibility_14 : decode cX9_layOutVisibility 14 = .ok (.if_icmp .ge 62, 3) := by decide +kernel
theorem dX9_layOutVisibility_17 : decode cX9_layOutVisibility 17 = .ok (.iconst 0, 1) := by decide +kernel
theorem dX9_layOutVisibility_18 : decode cX9_layOutVisibility 18 = .ok (.istore_n 3, 1) := by decide +kernel
theorem dX9_layOutVisibility_19 : decode cX9_layOutVisibility 19 = .ok (.iload_n 3, 1) := by decide +kernel
theorem dX9_layOutVisibility_20 : decode cX9_layOutVisibility 20 = .ok (.iload_n 1, 1) := by decide +kernel
theorem dX9_layOutVisibility_21 : decode cX9_layOutVisibility 21 = .ok (.if_icmp .ge 49, 3) := by decide +kernel
theorem dX9_layOutVisibility_24 : decode cX9_layOutVisibility 24 = .ok (.aload_n 0, 1) := by decide +kernel
theorem dX9_layOutVisibility_25 : decode cX9_layOutVisibility 25 = .ok (.getfield 41, 3) := by decide +kernel
theorem dX9_layOutVisibility_28 : decode cX9_layOutVisibility 28 = .ok (.sipush 160, 3) := by decide +kernel
theorem dX9_layOutVisibility_31 : decode cX9_layOutVisibility 31 = .ok (.iload_n 2, 1) := by decide +kernel
theorem dX9_layOutVisibility_32 : decode cX9_layOutVisibility 32 = .ok (.imul, 1) := by decide +kernel
theorem dX9_layOutVisibility_33 : decode cX9_layOutVisibility 33 = .ok (.iload_n 3, 1) := by decide +kernel
theorem dX9_layOutVisibility_34 : decode cX9_layOutVisibility 34 = .ok (.iadd, 1) := by decide +kernel
theorem dX9_layOutVisibility_35 : decode cX9_layOutVisibility 35 = .ok (.aload_n 0, 1) := by decide +kernel
theorem dX9_layOutVisibility_36 : decode cX9_layOutVisibility 36 = .ok (.iload_n 2, 1) := by decide +kernel
theorem dX9_layOutVisibility_37 : decode cX9_layOutVisibility 37 = .ok (.aload_n 0, 1) := by decide +kernel
theorem dX9_layOutVisibility_38 : decode cX9_layOutVisibility 38 = .ok (.getfield 51, 3) := by decide +kernel
theorem dX9_layOutVisibility_41 : decode cX9_layOutVisibility 41 = .ok (.idiv, 1) := by decide +kernel
theorem dX9_layOutVisibility_42 : decode cX9_layOutVisibility 42 = .ok (.iload_n 2, 1) := by decide +kernel
theorem dX9_layOutVisibility_43 : decode cX9_layOutVisibility 43 = .ok (.aload_n 0, 1) := by decide +kernel
theorem dX9_layOutVisibility_44 : decode cX9_layOutVisibility 44 = .ok (.getfield 51, 3) := by decide +kernel
theorem dX9_layOutVisibility_47 : decode cX9_layOutVisibility 47 = .ok (.irem, 1) := by decide +kernel
theorem dX9_layOutVisibility_48 : decode cX9_layOutVisibility 48 = .ok (.iload_n 3, 1) := by decide +kernel
theorem dX9_layOutVisibility_49 : decode cX9_layOutVisibility 49 = .ok (.aload_n 0, 1) := by decide +kernel
theorem dX9_layOutVisibility_50 : decode cX9_layOutVisibility 50 = .ok (.getfield 51, 3) := by decide +kernel
theorem dX9_layOutVisibility_53 : decode cX9_layOutVisibility 53 = .ok (.idiv, 1) := by decide +kernel
theorem dX9_layOutVisibility_54 : decode cX9_layOutVisibility 54 = .ok (.iload_n 3, 1) := by decide +kernel
theorem dX9_layOutVisibility_55 : decode cX9_layOutVisibility 55 = .ok (.aload_n 0, 1) := by decide +kernel
theorem dX9_layOutVisibility_56 : decode cX9_layOutVisibility 56 = .ok (.getfield 51, 3) := by decide +kernel
theorem dX9_layOutVisibility_59 : decode cX9_layOutVisibility 59 = .ok (.irem, 1) := by decide +kernel
theorem dX9_layOutVisibility_60 : decode cX9_layOutVisibility 60 = .ok (.invokevirtual 100, 3) := by decide +kernel
theorem dX9_layOutVisibility_63 : decode cX9_layOutVisibility 63 = .ok (.bastore, 1) := by decide +kernel
theorem dX9_layOutVisibility_64 : decode cX9_layOutVisibility 64 = .ok (.iinc 3 1, 3) := by decide +kernel
theorem dX9_layOutVisibility_67 : decode cX9_layOutVisibility 67 = .ok (.goto (-48), 3) := by decide +kernel
theorem dX9_layOutVisibility_70 : decode cX9_layOutVisibility 70 = .ok (.iinc 2 1, 3) := by decide +kernel
theorem dX9_layOutVisibility_73 : decode cX9_layOutVisibility 73 = .ok (.goto (-61), 3) := by decide +kernel
theorem dX9_layOutVisibility_76 : decode cX9_layOutVisibility 76 = .ok (.return_, 1) := by decide +kernel
theorem dX9_isCovered_0 : decode cX9_isCovered 0 = .ok (.iconst 0, 1) := by decide +kernel
theorem dX9_isCovered_1 : decode cX9_isCovered 1 = .ok (.istore 5, 2) := by decide +kernel
theorem dX9_isCovered_3 : decode cX9_isCovered 3 = .ok (.iload_n 3, 1) := by decide +kernel
theorem dX9_isCovered_4 : decode cX9_isCovered 4 = .ok (.iconst 2, 1) := by decide +kernel
theorem dX9_isCovered_5 : decode cX9_isCovered 5 = .ok (.idiv, 1) := by decide +kernel
theorem dX9_isCovered_6 : decode cX9_isCovered 6 = .ok (.istore 6, 2) := by decide +kernel
theorem dX9_isCovered_8 : decode cX9_isCovered 8 = .ok (.iload 6, 2) := by decide +kernel
theorem dX9_isCovered_10 : decode cX9_isCovered 10 = .ok (.aload_n 0, 1) := by decide +kernel
theorem dX9_isCovered_11 : decode cX9_isCovered 11 = .ok (.getfield 48, 3) := by decide +kernel
theorem dX9_isCovered_14 : decode cX9_isCovered 14 = .ok (.if_icmp .ge 68, 3) := by decide +kernel
theorem dX9_isCovered_17 : decode cX9_isCovered 17 = .ok (.iconst 0, 1) := by decide +kernel
theorem dX9_isCovered_18 : decode cX9_isCovered 18 = .ok (.istore 7, 2) := by decide +kernel
theorem dX9_isCovered_20 : decode cX9_isCovered 20 = .ok (.iload 7, 2) := by decide +kernel
theorem dX9_isCovered_22 : decode cX9_isCovered 22 = .ok (.aload_n 0, 1) := by decide +kernel
theorem dX9_isCovered_23 : decode cX9_isCovered 23 = .ok (.getfield 51, 3) := by decide +kernel
theorem dX9_isCovered_26 : decode cX9_isCovered 26 = .ok (.if_icmp .ge 47, 3) := by decide +kernel
theorem dX9_isCovered_29 : decode cX9_isCovered 29 = .ok (.iload 5, 2) := by decide +kernel
theorem dX9_isCovered_31 : decode cX9_isCovered 31 = .ok (.aload_n 0, 1) := by decide +kernel
theorem dX9_isCovered_32 : decode cX9_isCovered 32 = .ok (.getfield 41, 3) := by decide +kernel
theorem dX9_isCovered_35 : decode cX9_isCovered 35 = .ok (.sipush 160, 3) := by decide +kernel
theorem dX9_isCovered_38 : decode cX9_isCovered 38 = .ok (.aload_n 0, 1) := by decide +kernel
theorem dX9_isCovered_39 : decode cX9_isCovered 39 = .ok (.getfield 51, 3) := by decide +kernel
theorem dX9_isCovered_42 : decode cX9_isCovered 42 = .ok (.iload 6, 2) := by decide +kernel
theorem dX9_isCovered_44 : decode cX9_isCovered 44 = .ok (.imul, 1) := by decide +kernel
theorem dX9_isCovered_45 : decode cX9_isCovered 45 = .ok (.iload 7, 2) := by decide +kernel
theorem dX9_isCovered_47 : decode cX9_isCovered 47 = .ok (.iadd, 1) := by decide +kernel
theorem dX9_isCovered_48 : decode cX9_isCovered 48 = .ok (.imul, 1) := by decide +kernel
theorem dX9_isCovered_49 : decode cX9_isCovered 49 = .ok (.iload_n 1, 1) := by decide +kernel
theorem dX9_isCovered_50 : decode cX9_isCovered 50 = .ok (.iadd, 1) := by decide +kernel
theorem dX9_isCovered_51 : decode cX9_isCovered 51 = .ok (.baload, 1) := by decide +kernel
theorem dX9_isCovered_52 : decode cX9_isCovered 52 = .ok (.ifCond .eq 7, 3) := by decide +kernel
theorem dX9_isCovered_55 : decode cX9_isCovered 55 = .ok (.iconst 1, 1) := by decide +kernel
theorem dX9_isCovered_56 : decode cX9_isCovered 56 = .ok (.goto 4, 3) := by decide +kernel
theorem dX9_isCovered_59 : decode cX9_isCovered 59 = .ok (.iconst 0, 1) := by decide +kernel
theorem dX9_isCovered_60 : decode cX9_isCovered 60 = .ok (.iadd, 1) := by decide +kernel
theorem dX9_isCovered_61 : decode cX9_isCovered 61 = .ok (.istore 5, 2) := by decide +kernel
theorem dX9_isCovered_63 : decode cX9_isCovered 63 = .ok (.iload 7, 2) := by decide +kernel
theorem dX9_isCovered_65 : decode cX9_isCovered 65 = .ok (.iload 4, 2) := by decide +kernel
theorem dX9_isCovered_67 : decode cX9_isCovered 67 = .ok (.iadd, 1) := by decide +kernel
theorem dX9_isCovered_68 : decode cX9_isCovered 68 = .ok (.istore 7, 2) := by decide +kernel
theorem dX9_isCovered_70 : decode cX9_isCovered 70 = .ok (.goto (-50), 3) := by decide +kernel
theorem dX9_isCovered_73 : decode cX9_isCovered 73 = .ok (.iload 6, 2) := by decide +kernel
theorem dX9_isCovered_75 : decode cX9_isCovered 75 = .ok (.iload_n 3, 1) := by decide +kernel
theorem dX9_isCovered_76 : decode cX9_isCovered 76 = .ok (.iadd, 1) := by decide +kernel
theorem dX9_isCovered_77 : decode cX9_isCovered 77 = .ok (.istore 6, 2) := by decide +kernel
theorem dX9_isCovered_79 : decode cX9_isCovered 79 = .ok (.goto (-71), 3) := by decide +kernel
theorem dX9_isCovered_82 : decode cX9_isCovered 82 = .ok (.iload 5, 2) := by decide +kernel
theorem dX9_isCovered_84 : decode cX9_isCovered 84 = .ok (.iload_n 2, 1) := by decide +kernel
theorem dX9_isCovered_85 : decode cX9_isCovered 85 = .ok (.if_icmp .lt 7, 3) := by decide +kernel
theorem dX9_isCovered_88 : decode cX9_isCovered 88 = .ok (.iconst 1, 1) := by decide +kernel
theorem dX9_isCovered_89 : decode cX9_isCovered 89 = .ok (.goto 4, 3) := by decide +kernel
theorem dX9_isCovered_92 : decode cX9_isCovered 92 = .ok (.iconst 0, 1) := by decide +kernel
theorem dX9_isCovered_93 : decode cX9_isCovered 93 = .ok (.ireturn, 1) := by decide +kernel
set_option maxRecDepth 20000 in
theorem ggX9_photosBy_X9_isCovered : GoodIn wsX9_photosBy wsX9_isCovered := goodIn_r _ [8, 1, 3, 9, 10, 11, 12, 13, 14, 15, 16, 17, 18, 19, 20, 21, 22, 23, 24, 25, 26, 27, 28, 29] (by decide +kernel) (by decide +kernel)
set_option maxRecDepth 20000 in
theorem gX9_photosBy_X9_isCovered : GoodIn wsX9_photosBy (wsV RX9 124 RX9 yX9_isCovered wsX9_isCovered) := goodIn_app (goodIn_of _ (by decide +kernel)) ggX9_photosBy_X9_isCovered
theorem dX9_photosBy_0 : decode cX9_photosBy 0 = .ok (.aload_n 0, 1) := by decide +kernel
theorem dX9_photosBy_1 : decode cX9_photosBy 1 = .ok (.getfield 48, 3) := by decide +kernel
theorem dX9_photosBy_4 : decode cX9_photosBy 4 = .ok (.iconst 1, 1) := by decide +kernel
theorem dX9_photosBy_5 : decode cX9_photosBy 5 = .ok (.isub, 1) := by decide +kernel
theorem dX9_photosBy_6 : decode cX9_photosBy 6 = .ok (.iload_n 2, 1) := by decide +kernel
theorem dX9_photosBy_7 : decode cX9_photosBy 7 = .ok (.iconst 2, 1) := by decide +kernel
theorem dX9_photosBy_8 : decode cX9_photosBy 8 = .ok (.idiv, 1) := by decide +kernel
theorem dX9_photosBy_9 : decode cX9_photosBy 9 = .ok (.isub, 1) := by decide +kernel
theorem dX9_photosBy_10 : decode cX9_photosBy 10 = .ok (.iload_n 2, 1) := by decide +kernel
theorem dX9_photosBy_11 : decode cX9_photosBy 11 = .ok (.idiv, 1) := by decide +kernel
theorem dX9_photosBy_12 : decode cX9_photosBy 12 = .ok (.iconst 1, 1) := by decide +kernel
theorem dX9_photosBy_13 : decode cX9_photosBy 13 = .ok (.iadd, 1) := by decide +kernel
theorem dX9_photosBy_14 : decode cX9_photosBy 14 = .ok (.istore 4, 2) := by decide +kernel
theorem dX9_photosBy_16 : decode cX9_photosBy 16 = .ok (.iload 4, 2) := by decide +kernel
theorem dX9_photosBy_18 : decode cX9_photosBy 18 = .ok (.bipush 8, 2) := by decide +kernel
theorem dX9_photosBy_20 : decode cX9_photosBy 20 = .ok (.if_icmp .le 6, 3) := by decide +kernel
theorem dX9_photosBy_23 : decode cX9_photosBy 23 = .ok (.ldc 123, 2) := by decide +kernel
theorem dX9_photosBy_25 : decode cX9_photosBy 25 = .ok (.ireturn, 1) := by decide +kernel
theorem dX9_photosBy_26 : decode cX9_photosBy 26 = .ok (.iconst 0, 1) := by decide +kernel
theorem dX9_photosBy_27 : decode cX9_photosBy 27 = .ok (.istore 5, 2) := by decide +kernel
theorem dX9_photosBy_29 : decode cX9_photosBy 29 = .ok (.iload 5, 2) := by decide +kernel
theorem dX9_photosBy_31 : decode cX9_photosBy 31 = .ok (.aload_n 0, 1) := by decide +kernel
theorem dX9_photosBy_32 : decode cX9_photosBy 32 = .ok (.getfield 48, 3) := by decide +kernel
theorem dX9_photosBy_35 : decode cX9_photosBy 35 = .ok (.aload_n 0, 1) := by decide +kernel
theorem dX9_photosBy_36 : decode cX9_photosBy 36 = .ok (.getfield 51, 3) := by decide +kernel
theorem dX9_photosBy_39 : decode cX9_photosBy 39 = .ok (.imul, 1) := by decide +kernel
theorem dX9_photosBy_40 : decode cX9_photosBy 40 = .ok (.if_icmp .ge 24, 3) := by decide +kernel
theorem dX9_photosBy_43 : decode cX9_photosBy 43 = .ok (.aload_n 0, 1) := by decide +kernel
theorem dX9_photosBy_44 : decode cX9_photosBy 44 = .ok (.iload 5, 2) := by decide +kernel
theorem dX9_photosBy_46 : decode cX9_photosBy 46 = .ok (.iload_n 1, 1) := by decide +kernel
theorem dX9_photosBy_47 : decode cX9_photosBy 47 = .ok (.iload_n 2, 1) := by decide +kernel
theorem dX9_photosBy_48 : decode cX9_photosBy 48 = .ok (.iload_n 3, 1) := by decide +kernel
theorem dX9_photosBy_49 : decode cX9_photosBy 49 = .ok (.invokevirtual 124, 3) := by decide +kernel
theorem dX9_photosBy_52 : decode cX9_photosBy 52 = .ok (.ifCond .ne 6, 3) := by decide +kernel
theorem dX9_photosBy_55 : decode cX9_photosBy 55 = .ok (.ldc 123, 2) := by decide +kernel
theorem dX9_photosBy_57 : decode cX9_photosBy 57 = .ok (.ireturn, 1) := by decide +kernel
theorem dX9_photosBy_58 : decode cX9_photosBy 58 = .ok (.iinc 5 1, 3) := by decide +kernel
theorem dX9_photosBy_61 : decode cX9_photosBy 61 = .ok (.goto (-32), 3) := by decide +kernel
theorem dX9_photosBy_64 : decode cX9_photosBy 64 = .ok (.iload 4, 2) := by decide +kernel
theorem dX9_photosBy_66 : decode cX9_photosBy 66 = .ok (.aload_n 0, 1) := by decide +kernel
theorem dX9_photosBy_67 : decode cX9_photosBy 67 = .ok (.getfield 51, 3) := by decide +kernel
theorem dX9_photosBy_70 : decode cX9_photosBy 70 = .ok (.iconst 1, 1) := by decide +kernel
theorem dX9_photosBy_71 : decode cX9_photosBy 71 = .ok (.isub, 1) := by decide +kernel
theorem dX9_photosBy_72 : decode cX9_photosBy 72 = .ok (.iload_n 3, 1) := by decide +kernel
theorem dX9_photosBy_73 : decode cX9_photosBy 73 = .ok (.idiv, 1) := by decide +kernel
theorem dX9_photosBy_74 : decode cX9_photosBy 74 = .ok (.iconst 1, 1) := by decide +kernel
theorem dX9_photosBy_75 : decode cX9_photosBy 75 = .ok (.iadd, 1) := by decide +kernel
theorem dX9_photosBy_76 : decode cX9_photosBy 76 = .ok (.imul, 1) := by decide +kernel
theorem dX9_photosBy_77 : decode cX9_photosBy 77 = .ok (.ireturn, 1) := by decide +kernel
set_option maxRecDepth 20000 in
theorem ggX9_findPlan_X9_layOutVisibility : GoodIn wsX9_findPlan wsX9_layOutVisibility := goodIn_r _ [11, 3, 4, 12, 13, 14, 15, 10, 16, 17, 18, 19, 20, 21, 22, 23, 24, 25, 26, 27, 28, 29, 30, 31, 40, 41, 42, 43, 44, 45, 46, 47, 48, 49, 50, 51, 52, 53, 54, 55, 56, 57, 58, 59] (by decide +kernel) (by decide +kernel)
set_option maxRecDepth 20000 in
theorem gX9_findPlan_X9_layOutVisibility : GoodIn wsX9_findPlan (wsV RX9 127 RX9 yX9_layOutVisibility wsX9_layOutVisibility) := goodIn_app (goodIn_of _ (by decide +kernel)) ggX9_findPlan_X9_layOutVisibility
set_option maxRecDepth 20000 in
theorem ggX9_findPlan_X9_photosBy : GoodIn wsX9_findPlan wsX9_photosBy := goodIn_r _ [35, 3, 1, 4, 36, 37, 38, 10, 39, 12, 40, 41, 42, 43, 44, 45, 46, 47, 48, 49, 50, 51, 52, 53, 54, 55, 56, 57, 58, 59] (by decide +kernel) (by decide +kernel)
set_option maxRecDepth 20000 in
theorem gX9_findPlan_X9_photosBy : GoodIn wsX9_findPlan (wsV RX9 133 RX9 yX9_photosBy wsX9_photosBy) := goodIn_app (goodIn_of _ (by decide +kernel)) ggX9_findPlan_X9_photosBy
theorem dX9_findPlan_0 : decode cX9_findPlan 0 = .ok (.aload_n 0, 1) := by decide +kernel
theorem dX9_findPlan_1 : decode cX9_findPlan 1 = .ok (.invokevirtual 127, 3) := by decide +kernel
theorem dX9_findPlan_4 : decode cX9_findPlan 4 = .ok (.aload_n 0, 1) := by decide +kernel
theorem dX9_findPlan_5 : decode cX9_findPlan 5 = .ok (.ldc 123, 2) := by decide +kernel
theorem dX9_findPlan_7 : decode cX9_findPlan 7 = .ok (.putfield 130, 3) := by decide +kernel
theorem dX9_findPlan_10 : decode cX9_findPlan 10 = .ok (.aload_n 0, 1) := by decide +kernel
theorem dX9_findPlan_11 : decode cX9_findPlan 11 = .ok (.getfield 48, 3) := by decide +kernel
theorem dX9_findPlan_14 : decode cX9_findPlan 14 = .ok (.istore_n 2, 1) := by decide +kernel
theorem dX9_findPlan_15 : decode cX9_findPlan 15 = .ok (.iload_n 2, 1) := by decide +kernel
theorem dX9_findPlan_16 : decode cX9_findPlan 16 = .ok (.ifCond .le 101, 3) := by decide +kernel
theorem dX9_findPlan_19 : decode cX9_findPlan 19 = .ok (.aload_n 0, 1) := by decide +kernel
theorem dX9_findPlan_20 : decode cX9_findPlan 20 = .ok (.getfield 51, 3) := by decide +kernel
theorem dX9_findPlan_23 : decode cX9_findPlan 23 = .ok (.istore_n 3, 1) := by decide +kernel
theorem dX9_findPlan_24 : decode cX9_findPlan 24 = .ok (.iload_n 3, 1) := by decide +kernel
theorem dX9_findPlan_25 : decode cX9_findPlan 25 = .ok (.ifCond .le 86, 3) := by decide +kernel
theorem dX9_findPlan_28 : decode cX9_findPlan 28 = .ok (.aload_n 0, 1) := by decide +kernel
theorem dX9_findPlan_29 : decode cX9_findPlan 29 = .ok (.iload_n 1, 1) := by decide +kernel
theorem dX9_findPlan_30 : decode cX9_findPlan 30 = .ok (.iload_n 2, 1) := by decide +kernel
theorem dX9_findPlan_31 : decode cX9_findPlan 31 = .ok (.iload_n 3, 1) := by decide +kernel
theorem dX9_findPlan_32 : decode cX9_findPlan 32 = .ok (.invokevirtual 133, 3) := by decide +kernel
theorem dX9_findPlan_35 : decode cX9_findPlan 35 = .ok (.istore 4, 2) := by decide +kernel
theorem dX9_findPlan_37 : decode cX9_findPlan 37 = .ok (.iload 4, 2) := by decide +kernel
theorem dX9_findPlan_39 : decode cX9_findPlan 39 = .ok (.aload_n 0, 1) := by decide +kernel
theorem dX9_findPlan_40 : decode cX9_findPlan 40 = .ok (.getfield 130, 3) := by decide +kernel
theorem dX9_findPlan_43 : decode cX9_findPlan 43 = .ok (.if_icmp .ge 7, 3) := by decide +kernel
theorem dX9_findPlan_46 : decode cX9_findPlan 46 = .ok (.iconst 1, 1) := by decide +kernel
theorem dX9_findPlan_47 : decode cX9_findPlan 47 = .ok (.goto 4, 3) := by decide +kernel
theorem dX9_findPlan_50 : decode cX9_findPlan 50 = .ok (.iconst 0, 1) := by decide +kernel
theorem dX9_findPlan_51 : decode cX9_findPlan 51 = .ok (.istore 5, 2) := by decide +kernel
theorem dX9_findPlan_53 : decode cX9_findPlan 53 = .ok (.aload_n 0, 1) := by decide +kernel
theorem dX9_findPlan_54 : decode cX9_findPlan 54 = .ok (.iload 5, 2) := by decide +kernel
theorem dX9_findPlan_56 : decode cX9_findPlan 56 = .ok (.ifCond .eq 7, 3) := by decide +kernel
theorem dX9_findPlan_59 : decode cX9_findPlan 59 = .ok (.iload_n 2, 1) := by decide +kernel
theorem dX9_findPlan_60 : decode cX9_findPlan 60 = .ok (.goto 7, 3) := by decide +kernel
theorem dX9_findPlan_63 : decode cX9_findPlan 63 = .ok (.aload_n 0, 1) := by decide +kernel
theorem dX9_findPlan_64 : decode cX9_findPlan 64 = .ok (.getfield 136, 3) := by decide +kernel
theorem dX9_findPlan_67 : decode cX9_findPlan 67 = .ok (.putfield 136, 3) := by decide +kernel
theorem dX9_findPlan_70 : decode cX9_findPlan 70 = .ok (.aload_n 0, 1) := by decide +kernel
theorem dX9_findPlan_71 : decode cX9_findPlan 71 = .ok (.iload 5, 2) := by decide +kernel
theorem dX9_findPlan_73 : decode cX9_findPlan 73 = .ok (.ifCond .eq 7, 3) := by decide +kernel
theorem dX9_findPlan_76 : decode cX9_findPlan 76 = .ok (.iload_n 3, 1) := by decide +kernel
theorem dX9_findPlan_77 : decode cX9_findPlan 77 = .ok (.goto 7, 3) := by decide +kernel
theorem dX9_findPlan_80 : decode cX9_findPlan 80 = .ok (.aload_n 0, 1) := by decide +kernel
theorem dX9_findPlan_81 : decode cX9_findPlan 81 = .ok (.getfield 139, 3) := by decide +kernel
theorem dX9_findPlan_84 : decode cX9_findPlan 84 = .ok (.putfield 139, 3) := by decide +kernel
theorem dX9_findPlan_87 : decode cX9_findPlan 87 = .ok (.aload_n 0, 1) := by decide +kernel
theorem dX9_findPlan_88 : decode cX9_findPlan 88 = .ok (.iload 5, 2) := by decide +kernel
theorem dX9_findPlan_90 : decode cX9_findPlan 90 = .ok (.ifCond .eq 8, 3) := by decide +kernel
theorem dX9_findPlan_93 : decode cX9_findPlan 93 = .ok (.iload 4, 2) := by decide +kernel
theorem dX9_findPlan_95 : decode cX9_findPlan 95 = .ok (.goto 7, 3) := by decide +kernel
theorem dX9_findPlan_98 : decode cX9_findPlan 98 = .ok (.aload_n 0, 1) := by decide +kernel
theorem dX9_findPlan_99 : decode cX9_findPlan 99 = .ok (.getfield 130, 3) := by decide +kernel
theorem dX9_findPlan_102 : decode cX9_findPlan 102 = .ok (.putfield 130, 3) := by decide +kernel
theorem dX9_findPlan_105 : decode cX9_findPlan 105 = .ok (.iinc 3 (-1), 3) := by decide +kernel
theorem dX9_findPlan_108 : decode cX9_findPlan 108 = .ok (.goto (-84), 3) := by decide +kernel
theorem dX9_findPlan_111 : decode cX9_findPlan 111 = .ok (.iinc 2 (-1), 3) := by decide +kernel
theorem dX9_findPlan_114 : decode cX9_findPlan 114 = .ok (.goto (-99), 3) := by decide +kernel
theorem dX9_findPlan_117 : decode cX9_findPlan 117 = .ok (.aload_n 0, 1) := by decide +kernel
theorem dX9_findPlan_118 : decode cX9_findPlan 118 = .ok (.getfield 130, 3) := by decide +kernel
theorem dX9_findPlan_121 : decode cX9_findPlan 121 = .ok (.ldc 123, 2) := by decide +kernel
theorem dX9_findPlan_123 : decode cX9_findPlan 123 = .ok (.if_icmp .ge 7, 3) := by decide +kernel
theorem dX9_findPlan_126 : decode cX9_findPlan 126 = .ok (.iconst 1, 1) := by decide +kernel
theorem dX9_findPlan_127 : decode cX9_findPlan 127 = .ok (.goto 4, 3) := by decide +kernel
theorem dX9_findPlan_130 : decode cX9_findPlan 130 = .ok (.iconst 0, 1) := by decide +kernel
theorem dX9_findPlan_131 : decode cX9_findPlan 131 = .ok (.ireturn, 1) := by decide +kernel
set_option maxRecDepth 20000 in
theorem ggX9_planPhotos_X9_isRequired : GoodIn wsX9_planPhotos wsX9_isRequired := goodIn_r _ [5, 6, 7, 4, 8] (by decide +kernel) (by decide +kernel)
set_option maxRecDepth 20000 in
theorem gX9_planPhotos_X9_isRequired : GoodIn wsX9_planPhotos (va_wsS RX9 113 yX9_isRequired wsX9_isRequired) := goodIn_app (goodIn_of _ (by decide +kernel)) ggX9_planPhotos_X9_isRequired
set_option maxRecDepth 20000 in
theorem ggX9_planPhotos_X9_findPlan : GoodIn wsX9_planPhotos wsX9_findPlan := goodIn_r _ [12, 13, 1, 14, 15, 16, 17, 18, 19, 20, 4, 21, 22, 23, 24, 25, 26, 27, 28, 29, 30, 31, 32, 33, 34, 35, 36, 37, 38, 39, 40, 41, 42, 43, 44, 45, 46, 47, 48, 49, 50, 51, 52, 53, 54, 55, 56, 57, 58, 59, 60, 61, 62, 63, 64, 65, 66, 67, 68, 69] (by decide +kernel) (by decide +kernel)
set_option maxRecDepth 20000 in
theorem gX9_planPhotos_X9_findPlan : GoodIn wsX9_planPhotos (wsV RX9 142 RX9 yX9_findPlan wsX9_findPlan) := goodIn_app (goodIn_of _ (by decide +kernel)) ggX9_planPhotos_X9_findPlan
theorem dX9_planPhotos_0 : decode cX9_planPhotos 0 = .ok (.iload_n 1, 1) := by decide +kernel
theorem dX9_planPhotos_1 : decode cX9_planPhotos 1 = .ok (.invokestatic 113, 3) := by decide +kernel
theorem dX9_planPhotos_4 : decode cX9_planPhotos 4 = .ok (.ifCond .ne 8, 3) := by decide +kernel
theorem dX9_planPhotos_7 : decode cX9_planPhotos 7 = .ok (.bipush (-4), 2) := by decide +kernel
theorem dX9_planPhotos_9 : decode cX9_planPhotos 9 = .ok (.goto 20, 3) := by decide +kernel
theorem dX9_planPhotos_12 : decode cX9_planPhotos 12 = .ok (.aload_n 0, 1) := by decide +kernel
theorem dX9_planPhotos_13 : decode cX9_planPhotos 13 = .ok (.iload_n 1, 1) := by decide +kernel
theorem dX9_planPhotos_14 : decode cX9_planPhotos 14 = .ok (.invokevirtual 142, 3) := by decide +kernel
theorem dX9_planPhotos_17 : decode cX9_planPhotos 17 = .ok (.ifCond .eq 10, 3) := by decide +kernel
theorem dX9_planPhotos_20 : decode cX9_planPhotos 20 = .ok (.aload_n 0, 1) := by decide +kernel
theorem dX9_planPhotos_21 : decode cX9_planPhotos 21 = .ok (.getfield 130, 3) := by decide +kernel
theorem dX9_planPhotos_24 : decode cX9_planPhotos 24 = .ok (.goto 5, 3) := by decide +kernel
theorem dX9_planPhotos_27 : decode cX9_planPhotos 27 = .ok (.bipush (-6), 2) := by decide +kernel
theorem dX9_planPhotos_29 : decode cX9_planPhotos 29 = .ok (.ireturn, 1) := by decide +kernel
set_option maxRecDepth 20000 in
theorem ggX9_planRowSpacing_X9_isRequired : GoodIn wsX9_planRowSpacing wsX9_isRequired := goodIn_r _ [5, 6, 7, 4, 8] (by decide +kernel) (by decide +kernel)
set_option maxRecDepth 20000 in
theorem gX9_planRowSpacing_X9_isRequired : GoodIn wsX9_planRowSpacing (va_wsS RX9 113 yX9_isRequired wsX9_isRequired) := goodIn_app (goodIn_of _ (by decide +kernel)) ggX9_planRowSpacing_X9_isRequired
set_option maxRecDepth 20000 in
theorem ggX9_planRowSpacing_X9_findPlan : GoodIn wsX9_planRowSpacing wsX9_findPlan := goodIn_r _ [12, 13, 14, 15, 16, 1, 17, 18, 19, 20, 4, 21, 22, 23, 24, 25, 26, 27, 28, 29, 30, 31, 32, 33, 34, 35, 36, 37, 38, 39, 40, 41, 42, 43, 44, 45, 46, 47, 48, 49, 50, 51, 52, 53, 54, 55, 56, 57, 58, 59, 60, 61, 62, 63, 64, 65, 66, 67, 68, 69] (by decide +kernel) (by decide +kernel)
set_option maxRecDepth 20000 in
theorem gX9_planRowSpacing_X9_findPlan : GoodIn wsX9_planRowSpacing (wsV RX9 142 RX9 yX9_findPlan wsX9_findPlan) := goodIn_app (goodIn_of _ (by decide +kernel)) ggX9_planRowSpacing_X9_findPlan
theorem dX9_planRowSpacing_0 : decode cX9_planRowSpacing 0 = .ok (.iload_n 1, 1) := by decide +kernel
theorem dX9_planRowSpacing_1 : decode cX9_planRowSpacing 1 = .ok (.invokestatic 113, 3) := by decide +kernel
theorem dX9_planRowSpacing_4 : decode cX9_planRowSpacing 4 = .ok (.ifCond .ne 8, 3) := by decide +kernel
theorem dX9_planRowSpacing_7 : decode cX9_planRowSpacing 7 = .ok (.bipush (-4), 2) := by decide +kernel
theorem dX9_planRowSpacing_9 : decode cX9_planRowSpacing 9 = .ok (.goto 20, 3) := by decide +kernel
theorem dX9_planRowSpacing_12 : decode cX9_planRowSpacing 12 = .ok (.aload_n 0, 1) := by decide +kernel
theorem dX9_planRowSpacing_13 : decode cX9_planRowSpacing 13 = .ok (.iload_n 1, 1) := by decide +kernel
theorem dX9_planRowSpacing_14 : decode cX9_planRowSpacing 14 = .ok (.invokevirtual 142, 3) := by decide +kernel
theorem dX9_planRowSpacing_17 : decode cX9_planRowSpacing 17 = .ok (.ifCond .eq 10, 3) := by decide +kernel
theorem dX9_planRowSpacing_20 : decode cX9_planRowSpacing 20 = .ok (.aload_n 0, 1) := by decide +kernel
theorem dX9_planRowSpacing_21 : decode cX9_planRowSpacing 21 = .ok (.getfield 136, 3) := by decide +kernel
theorem dX9_planRowSpacing_24 : decode cX9_planRowSpacing 24 = .ok (.goto 5, 3) := by decide +kernel
theorem dX9_planRowSpacing_27 : decode cX9_planRowSpacing 27 = .ok (.bipush (-6), 2) := by decide +kernel
theorem dX9_planRowSpacing_29 : decode cX9_planRowSpacing 29 = .ok (.ireturn, 1) := by decide +kernel
set_option maxRecDepth 20000 in
theorem ggX9_planPhotoSpacing_X9_isRequired : GoodIn wsX9_planPhotoSpacing wsX9_isRequired := goodIn_r _ [5, 6, 7, 4, 8] (by decide +kernel) (by decide +kernel)
set_option maxRecDepth 20000 in
theorem gX9_planPhotoSpacing_X9_isRequired : GoodIn wsX9_planPhotoSpacing (va_wsS RX9 113 yX9_isRequired wsX9_isRequired) := goodIn_app (goodIn_of _ (by decide +kernel)) ggX9_planPhotoSpacing_X9_isRequired
set_option maxRecDepth 20000 in
theorem ggX9_planPhotoSpacing_X9_findPlan : GoodIn wsX9_planPhotoSpacing wsX9_findPlan := goodIn_r _ [12, 13, 14, 15, 16, 17, 1, 18, 19, 20, 4, 21, 22, 23, 24, 25, 26, 27, 28, 29, 30, 31, 32, 33, 34, 35, 36, 37, 38, 39, 40, 41, 42, 43, 44, 45, 46, 47, 48, 49, 50, 51, 52, 53, 54, 55, 56, 57, 58, 59, 60, 61, 62, 63, 64, 65, 66, 67, 68, 69] (by decide +kernel) (by decide +kernel)
set_option maxRecDepth 20000 in
theorem gX9_planPhotoSpacing_X9_findPlan : GoodIn wsX9_planPhotoSpacing (wsV RX9 142 RX9 yX9_findPlan wsX9_findPlan) := goodIn_app (goodIn_of _ (by decide +kernel)) ggX9_planPhotoSpacing_X9_findPlan
theorem dX9_planPhotoSpacing_0 : decode cX9_planPhotoSpacing 0 = .ok (.iload_n 1, 1) := by decide +kernel
theorem dX9_planPhotoSpacing_1 : decode cX9_planPhotoSpacing 1 = .ok (.invokestatic 113, 3) := by decide +kernel
theorem dX9_planPhotoSpacing_4 : decode cX9_planPhotoSpacing 4 = .ok (.ifCond .ne 8, 3) := by decide +kernel
theorem dX9_planPhotoSpacing_7 : decode cX9_planPhotoSpacing 7 = .ok (.bipush (-4), 2) := by decide +kernel
theorem dX9_planPhotoSpacing_9 : decode cX9_planPhotoSpacing 9 = .ok (.goto 20, 3) := by decide +kernel
theorem dX9_planPhotoSpacing_12 : decode cX9_planPhotoSpacing 12 = .ok (.aload_n 0, 1) := by decide +kernel
theorem dX9_planPhotoSpacing_13 : decode cX9_planPhotoSpacing 13 = .ok (.iload_n 1, 1) := by decide +kernel
theorem dX9_planPhotoSpacing_14 : decode cX9_planPhotoSpacing 14 = .ok (.invokevirtual 142, 3) := by decide +kernel
theorem dX9_planPhotoSpacing_17 : decode cX9_planPhotoSpacing 17 = .ok (.ifCond .eq 10, 3) := by decide +kernel
theorem dX9_planPhotoSpacing_20 : decode cX9_planPhotoSpacing 20 = .ok (.aload_n 0, 1) := by decide +kernel
theorem dX9_planPhotoSpacing_21 : decode cX9_planPhotoSpacing 21 = .ok (.getfield 139, 3) := by decide +kernel
theorem dX9_planPhotoSpacing_24 : decode cX9_planPhotoSpacing 24 = .ok (.goto 5, 3) := by decide +kernel
theorem dX9_planPhotoSpacing_27 : decode cX9_planPhotoSpacing 27 = .ok (.bipush (-6), 2) := by decide +kernel
theorem dX9_planPhotoSpacing_29 : decode cX9_planPhotoSpacing 29 = .ok (.ireturn, 1) := by decide +kernel
set_option maxRecDepth 20000 in
theorem ggX9_applyPlan_X9_isRequired : GoodIn wsX9_applyPlan wsX9_isRequired := goodIn_r _ [9, 10, 11, 8, 12] (by decide +kernel) (by decide +kernel)
set_option maxRecDepth 20000 in
theorem gX9_applyPlan_X9_isRequired : GoodIn wsX9_applyPlan (va_wsS RX9 113 yX9_isRequired wsX9_isRequired) := goodIn_app (goodIn_of _ (by decide +kernel)) ggX9_applyPlan_X9_isRequired
set_option maxRecDepth 20000 in
theorem ggX9_applyPlan_X9_findPlan : GoodIn wsX9_applyPlan wsX9_findPlan := goodIn_r _ [16, 17, 18, 3, 4, 2, 5, 19, 20, 21, 8, 22, 23, 24, 25, 26, 27, 28, 29, 30, 31, 32, 33, 34, 35, 36, 37, 38, 39, 40, 41, 42, 43, 44, 45, 46, 47, 48, 49, 50, 59, 60, 61, 62, 63, 64, 65, 66, 67, 68, 69, 70, 71, 72, 73, 74, 75, 76, 77, 78] (by decide +kernel) (by decide +kernel)
set_option maxRecDepth 20000 in
theorem gX9_applyPlan_X9_findPlan : GoodIn wsX9_applyPlan (wsV RX9 142 RX9 yX9_findPlan wsX9_findPlan) := goodIn_app (goodIn_of _ (by decide +kernel)) ggX9_applyPlan_X9_findPlan
set_option maxRecDepth 20000 in
theorem ggX9_applyPlan_X9_put : GoodIn wsX9_applyPlan wsX9_put := goodIn_r _ [54, 55, 1, 56, 57, 58, 59, 60, 61, 62, 63, 64, 65, 66, 67, 68, 69, 70, 71, 72, 73, 74, 75, 76, 77, 78] (by decide +kernel) (by decide +kernel)
set_option maxRecDepth 20000 in
theorem gX9_applyPlan_X9_put : GoodIn wsX9_applyPlan (wsV RX9 75 RX9 yX9_put wsX9_put) := goodIn_app (goodIn_of _ (by decide +kernel)) ggX9_applyPlan_X9_put
theorem dX9_applyPlan_0 : decode cX9_applyPlan 0 = .ok (.iload_n 1, 1) := by decide +kernel
theorem dX9_applyPlan_1 : decode cX9_applyPlan 1 = .ok (.invokestatic 113, 3) := by decide +kernel
theorem dX9_applyPlan_4 : decode cX9_applyPlan 4 = .ok (.ifCond .ne 6, 3) := by decide +kernel
theorem dX9_applyPlan_7 : decode cX9_applyPlan 7 = .ok (.bipush (-4), 2) := by decide +kernel
theorem dX9_applyPlan_9 : decode cX9_applyPlan 9 = .ok (.ireturn, 1) := by decide +kernel
theorem dX9_applyPlan_10 : decode cX9_applyPlan 10 = .ok (.aload_n 0, 1) := by decide +kernel
theorem dX9_applyPlan_11 : decode cX9_applyPlan 11 = .ok (.iload_n 1, 1) := by decide +kernel
theorem dX9_applyPlan_12 : decode cX9_applyPlan 12 = .ok (.invokevirtual 142, 3) := by decide +kernel
theorem dX9_applyPlan_15 : decode cX9_applyPlan 15 = .ok (.ifCond .ne 6, 3) := by decide +kernel
theorem dX9_applyPlan_18 : decode cX9_applyPlan 18 = .ok (.bipush (-6), 2) := by decide +kernel
theorem dX9_applyPlan_20 : decode cX9_applyPlan 20 = .ok (.ireturn, 1) := by decide +kernel
theorem dX9_applyPlan_21 : decode cX9_applyPlan 21 = .ok (.aload_n 0, 1) := by decide +kernel
theorem dX9_applyPlan_22 : decode cX9_applyPlan 22 = .ok (.iconst 0, 1) := by decide +kernel
theorem dX9_applyPlan_23 : decode cX9_applyPlan 23 = .ok (.putfield 58, 3) := by decide +kernel
theorem dX9_applyPlan_26 : decode cX9_applyPlan 26 = .ok (.aload_n 0, 1) := by decide +kernel
theorem dX9_applyPlan_27 : decode cX9_applyPlan 27 = .ok (.getfield 136, 3) := by decide +kernel
theorem dX9_applyPlan_30 : decode cX9_applyPlan 30 = .ok (.iconst 2, 1) := by decide +kernel
theorem dX9_applyPlan_31 : decode cX9_applyPlan 31 = .ok (.idiv, 1) := by decide +kernel
theorem dX9_applyPlan_32 : decode cX9_applyPlan 32 = .ok (.istore_n 2, 1) := by decide +kernel
theorem dX9_applyPlan_33 : decode cX9_applyPlan 33 = .ok (.iload_n 2, 1) := by decide +kernel
theorem dX9_applyPlan_34 : decode cX9_applyPlan 34 = .ok (.aload_n 0, 1) := by decide +kernel
theorem dX9_applyPlan_35 : decode cX9_applyPlan 35 = .ok (.getfield 48, 3) := by decide +kernel
theorem dX9_applyPlan_38 : decode cX9_applyPlan 38 = .ok (.if_icmp .ge 29, 3) := by decide +kernel
theorem dX9_applyPlan_41 : decode cX9_applyPlan 41 = .ok (.aload_n 0, 1) := by decide +kernel
theorem dX9_applyPlan_42 : decode cX9_applyPlan 42 = .ok (.iload_n 2, 1) := by decide +kernel
theorem dX9_applyPlan_43 : decode cX9_applyPlan 43 = .ok (.iconst 0, 1) := by decide +kernel
theorem dX9_applyPlan_44 : decode cX9_applyPlan 44 = .ok (.aload_n 0, 1) := by decide +kernel
theorem dX9_applyPlan_45 : decode cX9_applyPlan 45 = .ok (.getfield 51, 3) := by decide +kernel
theorem dX9_applyPlan_48 : decode cX9_applyPlan 48 = .ok (.iconst 1, 1) := by decide +kernel
theorem dX9_applyPlan_49 : decode cX9_applyPlan 49 = .ok (.isub, 1) := by decide +kernel
theorem dX9_applyPlan_50 : decode cX9_applyPlan 50 = .ok (.aload_n 0, 1) := by decide +kernel
theorem dX9_applyPlan_51 : decode cX9_applyPlan 51 = .ok (.getfield 139, 3) := by decide +kernel
theorem dX9_applyPlan_54 : decode cX9_applyPlan 54 = .ok (.invokevirtual 75, 3) := by decide +kernel
theorem dX9_applyPlan_57 : decode cX9_applyPlan 57 = .ok (.iload_n 2, 1) := by decide +kernel
theorem dX9_applyPlan_58 : decode cX9_applyPlan 58 = .ok (.aload_n 0, 1) := by decide +kernel
theorem dX9_applyPlan_59 : decode cX9_applyPlan 59 = .ok (.getfield 136, 3) := by decide +kernel
theorem dX9_applyPlan_62 : decode cX9_applyPlan 62 = .ok (.iadd, 1) := by decide +kernel
theorem dX9_applyPlan_63 : decode cX9_applyPlan 63 = .ok (.istore_n 2, 1) := by decide +kernel
theorem dX9_applyPlan_64 : decode cX9_applyPlan 64 = .ok (.goto (-31), 3) := by decide +kernel
theorem dX9_applyPlan_67 : decode cX9_applyPlan 67 = .ok (.aload_n 0, 1) := by decide +kernel
theorem dX9_applyPlan_68 : decode cX9_applyPlan 68 = .ok (.getfield 58, 3) := by decide +kernel
theorem dX9_applyPlan_71 : decode cX9_applyPlan 71 = .ok (.ireturn, 1) := by decide +kernel
theorem dX9_legTime_0 : decode cX9_legTime 0 = .ok (.iload_n 1, 1) := by decide +kernel
theorem dX9_legTime_1 : decode cX9_legTime 1 = .ok (.iconst 2, 1) := by decide +kernel
theorem dX9_legTime_2 : decode cX9_legTime 2 = .ok (.irem, 1) := by decide +kernel
theorem dX9_legTime_3 : decode cX9_legTime 3 = .ok (.ifCond .ne 15, 3) := by decide +kernel
theorem dX9_legTime_6 : decode cX9_legTime 6 = .ok (.aload_n 0, 1) := by decide +kernel
theorem dX9_legTime_7 : decode cX9_legTime 7 = .ok (.getfield 19, 3) := by decide +kernel
theorem dX9_legTime_10 : decode cX9_legTime 10 = .ok (.aload_n 0, 1) := by decide +kernel
theorem dX9_legTime_11 : decode cX9_legTime 11 = .ok (.getfield 72, 3) := by decide +kernel
theorem dX9_legTime_14 : decode cX9_legTime 14 = .ok (.iadd, 1) := by decide +kernel
theorem dX9_legTime_15 : decode cX9_legTime 15 = .ok (.goto 12, 3) := by decide +kernel
theorem dX9_legTime_18 : decode cX9_legTime 18 = .ok (.aload_n 0, 1) := by decide +kernel
theorem dX9_legTime_19 : decode cX9_legTime 19 = .ok (.getfield 19, 3) := by decide +kernel
theorem dX9_legTime_22 : decode cX9_legTime 22 = .ok (.aload_n 0, 1) := by decide +kernel
theorem dX9_legTime_23 : decode cX9_legTime 23 = .ok (.getfield 72, 3) := by decide +kernel
theorem dX9_legTime_26 : decode cX9_legTime 26 = .ok (.isub, 1) := by decide +kernel
theorem dX9_legTime_27 : decode cX9_legTime 27 = .ok (.istore_n 2, 1) := by decide +kernel
theorem dX9_legTime_28 : decode cX9_legTime 28 = .ok (.aload_n 0, 1) := by decide +kernel
theorem dX9_legTime_29 : decode cX9_legTime 29 = .ok (.getfield 35, 3) := by decide +kernel
theorem dX9_legTime_32 : decode cX9_legTime 32 = .ok (.iload_n 1, 1) := by decide +kernel
theorem dX9_legTime_33 : decode cX9_legTime 33 = .ok (.iconst 2, 1) := by decide +kernel
theorem dX9_legTime_34 : decode cX9_legTime 34 = .ok (.idiv, 1) := by decide +kernel
theorem dX9_legTime_35 : decode cX9_legTime 35 = .ok (.iaload, 1) := by decide +kernel
theorem dX9_legTime_36 : decode cX9_legTime 36 = .ok (.aload_n 0, 1) := by decide +kernel
theorem dX9_legTime_37 : decode cX9_legTime 37 = .ok (.getfield 32, 3) := by decide +kernel
theorem dX9_legTime_40 : decode cX9_legTime 40 = .ok (.iload_n 1, 1) := by decide +kernel
theorem dX9_legTime_41 : decode cX9_legTime 41 = .ok (.iconst 2, 1) := by decide +kernel
theorem dX9_legTime_42 : decode cX9_legTime 42 = .ok (.idiv, 1) := by decide +kernel
theorem dX9_legTime_43 : decode cX9_legTime 43 = .ok (.iaload, 1) := by decide +kernel
theorem dX9_legTime_44 : decode cX9_legTime 44 = .ok (.isub, 1) := by decide +kernel
theorem dX9_legTime_45 : decode cX9_legTime 45 = .ok (.sipush 1000, 3) := by decide +kernel
theorem dX9_legTime_48 : decode cX9_legTime 48 = .ok (.imul, 1) := by decide +kernel
theorem dX9_legTime_49 : decode cX9_legTime 49 = .ok (.iload_n 2, 1) := by decide +kernel
theorem dX9_legTime_50 : decode cX9_legTime 50 = .ok (.idiv, 1) := by decide +kernel
theorem dX9_legTime_51 : decode cX9_legTime 51 = .ok (.ireturn, 1) := by decide +kernel
set_option maxRecDepth 20000 in
theorem ggX9_stripTime_X9_isStrip : GoodIn wsX9_stripTime wsX9_isStrip := goodIn_r _ [5, 6, 7, 8, 4, 9, 18, 19, 20, 21, 22, 23, 24, 25, 26, 27, 28, 29, 30, 31, 32, 33, 34, 35, 36, 37] (by decide +kernel) (by decide +kernel)
set_option maxRecDepth 20000 in
theorem gX9_stripTime_X9_isStrip : GoodIn wsX9_stripTime (wsV RX9 79 RX9 yX9_isStrip wsX9_isStrip) := goodIn_app (goodIn_of _ (by decide +kernel)) ggX9_stripTime_X9_isStrip
set_option maxRecDepth 20000 in
theorem ggX9_stripTime_X9_legTime : GoodIn wsX9_stripTime wsX9_legTime := goodIn_r _ [13, 14, 15, 16, 17, 18, 19, 20, 21, 22, 23, 24, 25, 26, 27, 28, 29, 30, 31, 32, 33, 34, 35, 36, 37] (by decide +kernel) (by decide +kernel)
set_option maxRecDepth 20000 in
theorem gX9_stripTime_X9_legTime : GoodIn wsX9_stripTime (wsV RX9 145 RX9 yX9_legTime wsX9_legTime) := goodIn_app (goodIn_of _ (by decide +kernel)) ggX9_stripTime_X9_legTime
theorem dX9_stripTime_0 : decode cX9_stripTime 0 = .ok (.aload_n 0, 1) := by decide +kernel
theorem dX9_stripTime_1 : decode cX9_stripTime 1 = .ok (.iload_n 1, 1) := by decide +kernel
theorem dX9_stripTime_2 : decode cX9_stripTime 2 = .ok (.invokevirtual 79, 3) := by decide +kernel
theorem dX9_stripTime_5 : decode cX9_stripTime 5 = .ok (.ifCond .eq 23, 3) := by decide +kernel
theorem dX9_stripTime_8 : decode cX9_stripTime 8 = .ok (.aload_n 0, 1) := by decide +kernel
theorem dX9_stripTime_9 : decode cX9_stripTime 9 = .ok (.iconst 2, 1) := by decide +kernel
theorem dX9_stripTime_10 : decode cX9_stripTime 10 = .ok (.iload_n 1, 1) := by decide +kernel
theorem dX9_stripTime_11 : decode cX9_stripTime 11 = .ok (.imul, 1) := by decide +kernel
theorem dX9_stripTime_12 : decode cX9_stripTime 12 = .ok (.iload_n 2, 1) := by decide +kernel
theorem dX9_stripTime_13 : decode cX9_stripTime 13 = .ok (.ifCond .eq 7, 3) := by decide +kernel
theorem dX9_stripTime_16 : decode cX9_stripTime 16 = .ok (.iconst 0, 1) := by decide +kernel
theorem dX9_stripTime_17 : decode cX9_stripTime 17 = .ok (.goto 4, 3) := by decide +kernel
theorem dX9_stripTime_20 : decode cX9_stripTime 20 = .ok (.iconst 1, 1) := by decide +kernel
theorem dX9_stripTime_21 : decode cX9_stripTime 21 = .ok (.iadd, 1) := by decide +kernel
theorem dX9_stripTime_22 : decode cX9_stripTime 22 = .ok (.invokevirtual 145, 3) := by decide +kernel
theorem dX9_stripTime_25 : decode cX9_stripTime 25 = .ok (.goto 5, 3) := by decide +kernel
theorem dX9_stripTime_28 : decode cX9_stripTime 28 = .ok (.bipush (-2), 2) := by decide +kernel
theorem dX9_stripTime_30 : decode cX9_stripTime 30 = .ok (.ireturn, 1) := by decide +kernel
theorem dX9_entryColumn_0 : decode cX9_entryColumn 0 = .ok (.iload_n 1, 1) := by decide +kernel
theorem dX9_entryColumn_1 : decode cX9_entryColumn 1 = .ok (.iconst 2, 1) := by decide +kernel
theorem dX9_entryColumn_2 : decode cX9_entryColumn 2 = .ok (.irem, 1) := by decide +kernel
theorem dX9_entryColumn_3 : decode cX9_entryColumn 3 = .ok (.ifCond .ne 14, 3) := by decide +kernel
theorem dX9_entryColumn_6 : decode cX9_entryColumn 6 = .ok (.aload_n 0, 1) := by decide +kernel
theorem dX9_entryColumn_7 : decode cX9_entryColumn 7 = .ok (.getfield 32, 3) := by decide +kernel
theorem dX9_entryColumn_10 : decode cX9_entryColumn 10 = .ok (.iload_n 1, 1) := by decide +kernel
theorem dX9_entryColumn_11 : decode cX9_entryColumn 11 = .ok (.iconst 2, 1) := by decide +kernel
theorem dX9_entryColumn_12 : decode cX9_entryColumn 12 = .ok (.idiv, 1) := by decide +kernel
theorem dX9_entryColumn_13 : decode cX9_entryColumn 13 = .ok (.iaload, 1) := by decide +kernel
theorem dX9_entryColumn_14 : decode cX9_entryColumn 14 = .ok (.goto 11, 3) := by decide +kernel
theorem dX9_entryColumn_17 : decode cX9_entryColumn 17 = .ok (.aload_n 0, 1) := by decide +kernel
theorem dX9_entryColumn_18 : decode cX9_entryColumn 18 = .ok (.getfield 35, 3) := by decide +kernel
theorem dX9_entryColumn_21 : decode cX9_entryColumn 21 = .ok (.iload_n 1, 1) := by decide +kernel
theorem dX9_entryColumn_22 : decode cX9_entryColumn 22 = .ok (.iconst 2, 1) := by decide +kernel
theorem dX9_entryColumn_23 : decode cX9_entryColumn 23 = .ok (.idiv, 1) := by decide +kernel
theorem dX9_entryColumn_24 : decode cX9_entryColumn 24 = .ok (.iaload, 1) := by decide +kernel
theorem dX9_entryColumn_25 : decode cX9_entryColumn 25 = .ok (.ireturn, 1) := by decide +kernel
theorem dX9_exitColumn_0 : decode cX9_exitColumn 0 = .ok (.iload_n 1, 1) := by decide +kernel
theorem dX9_exitColumn_1 : decode cX9_exitColumn 1 = .ok (.iconst 2, 1) := by decide +kernel
theorem dX9_exitColumn_2 : decode cX9_exitColumn 2 = .ok (.irem, 1) := by decide +kernel
theorem dX9_exitColumn_3 : decode cX9_exitColumn 3 = .ok (.ifCond .ne 14, 3) := by decide +kernel
theorem dX9_exitColumn_6 : decode cX9_exitColumn 6 = .ok (.aload_n 0, 1) := by decide +kernel
theorem dX9_exitColumn_7 : decode cX9_exitColumn 7 = .ok (.getfield 35, 3) := by decide +kernel
theorem dX9_exitColumn_10 : decode cX9_exitColumn 10 = .ok (.iload_n 1, 1) := by decide +kernel
theorem dX9_exitColumn_11 : decode cX9_exitColumn 11 = .ok (.iconst 2, 1) := by decide +kernel
theorem dX9_exitColumn_12 : decode cX9_exitColumn 12 = .ok (.idiv, 1) := by decide +kernel
theorem dX9_exitColumn_13 : decode cX9_exitColumn 13 = .ok (.iaload, 1) := by decide +kernel
theorem dX9_exitColumn_14 : decode cX9_exitColumn 14 = .ok (.goto 11, 3) := by decide +kernel
theorem dX9_exitColumn_17 : decode cX9_exitColumn 17 = .ok (.aload_n 0, 1) := by decide +kernel
theorem dX9_exitColumn_18 : decode cX9_exitColumn 18 = .ok (.getfield 32, 3) := by decide +kernel
theorem dX9_exitColumn_21 : decode cX9_exitColumn 21 = .ok (.iload_n 1, 1) := by decide +kernel
theorem dX9_exitColumn_22 : decode cX9_exitColumn 22 = .ok (.iconst 2, 1) := by decide +kernel
theorem dX9_exitColumn_23 : decode cX9_exitColumn 23 = .ok (.idiv, 1) := by decide +kernel
theorem dX9_exitColumn_24 : decode cX9_exitColumn 24 = .ok (.iaload, 1) := by decide +kernel
theorem dX9_exitColumn_25 : decode cX9_exitColumn 25 = .ok (.ireturn, 1) := by decide +kernel
set_option maxRecDepth 20000 in
theorem ggX9_timeBy_X9_size : GoodIn wsX9_timeBy wsX9_size := goodIn_r _ [7] (by decide +kernel) (by decide +kernel)
set_option maxRecDepth 20000 in
theorem gX9_timeBy_X9_size : GoodIn wsX9_timeBy (va_wsS RX9 65 yX9_size wsX9_size) := goodIn_app (goodIn_of _ (by decide +kernel)) ggX9_timeBy_X9_size
set_option maxRecDepth 20000 in
theorem ggX9_timeBy_X9_entryColumn : GoodIn wsX9_timeBy wsX9_entryColumn := goodIn_r _ [11, 12, 13, 19, 20, 21, 22, 23, 24, 25, 26, 27, 28, 29, 30, 31, 32, 33, 34, 35, 36, 37, 38] (by decide +kernel) (by decide +kernel)
set_option maxRecDepth 20000 in
theorem gX9_timeBy_X9_entryColumn : GoodIn wsX9_timeBy (wsV RX9 148 RX9 yX9_entryColumn wsX9_entryColumn) := goodIn_app (goodIn_of _ (by decide +kernel)) ggX9_timeBy_X9_entryColumn
set_option maxRecDepth 20000 in
theorem ggX9_timeBy_X9_legTime : GoodIn wsX9_timeBy wsX9_legTime := goodIn_r _ [17, 2, 18, 13, 12, 19, 20, 21, 22, 23, 24, 25, 26, 27, 28, 29, 30, 31, 32, 33, 34, 35, 36, 37, 38] (by decide +kernel) (by decide +kernel)
set_option maxRecDepth 20000 in
theorem gX9_timeBy_X9_legTime : GoodIn wsX9_timeBy (wsV RX9 145 RX9 yX9_legTime wsX9_legTime) := goodIn_app (goodIn_of _ (by decide +kernel)) ggX9_timeBy_X9_legTime
theorem dX9_timeBy_0 : decode cX9_timeBy 0 = .ok (.iload_n 1, 1) := by decide +kernel
theorem dX9_timeBy_1 : decode cX9_timeBy 1 = .ok (.aload_n 0, 1) := by decide +kernel
theorem dX9_timeBy_2 : decode cX9_timeBy 2 = .ok (.getfield 29, 3) := by decide +kernel
theorem dX9_timeBy_5 : decode cX9_timeBy 5 = .ok (.iload_n 3, 1) := by decide +kernel
theorem dX9_timeBy_6 : decode cX9_timeBy 6 = .ok (.iconst 2, 1) := by decide +kernel
theorem dX9_timeBy_7 : decode cX9_timeBy 7 = .ok (.idiv, 1) := by decide +kernel
theorem dX9_timeBy_8 : decode cX9_timeBy 8 = .ok (.iaload, 1) := by decide +kernel
theorem dX9_timeBy_9 : decode cX9_timeBy 9 = .ok (.isub, 1) := by decide +kernel
theorem dX9_timeBy_10 : decode cX9_timeBy 10 = .ok (.invokestatic 65, 3) := by decide +kernel
theorem dX9_timeBy_13 : decode cX9_timeBy 13 = .ok (.iload_n 2, 1) := by decide +kernel
theorem dX9_timeBy_14 : decode cX9_timeBy 14 = .ok (.aload_n 0, 1) := by decide +kernel
theorem dX9_timeBy_15 : decode cX9_timeBy 15 = .ok (.iload_n 3, 1) := by decide +kernel
theorem dX9_timeBy_16 : decode cX9_timeBy 16 = .ok (.invokevirtual 148, 3) := by decide +kernel
theorem dX9_timeBy_19 : decode cX9_timeBy 19 = .ok (.isub, 1) := by decide +kernel
theorem dX9_timeBy_20 : decode cX9_timeBy 20 = .ok (.invokestatic 65, 3) := by decide +kernel
theorem dX9_timeBy_23 : decode cX9_timeBy 23 = .ok (.iadd, 1) := by decide +kernel
theorem dX9_timeBy_24 : decode cX9_timeBy 24 = .ok (.istore 4, 2) := by decide +kernel
theorem dX9_timeBy_26 : decode cX9_timeBy 26 = .ok (.iload 4, 2) := by decide +kernel
theorem dX9_timeBy_28 : decode cX9_timeBy 28 = .ok (.sipush 1000, 3) := by decide +kernel
theorem dX9_timeBy_31 : decode cX9_timeBy 31 = .ok (.imul, 1) := by decide +kernel
theorem dX9_timeBy_32 : decode cX9_timeBy 32 = .ok (.aload_n 0, 1) := by decide +kernel
theorem dX9_timeBy_33 : decode cX9_timeBy 33 = .ok (.getfield 19, 3) := by decide +kernel
theorem dX9_timeBy_36 : decode cX9_timeBy 36 = .ok (.idiv, 1) := by decide +kernel
theorem dX9_timeBy_37 : decode cX9_timeBy 37 = .ok (.aload_n 0, 1) := by decide +kernel
theorem dX9_timeBy_38 : decode cX9_timeBy 38 = .ok (.getfield 22, 3) := by decide +kernel
theorem dX9_timeBy_41 : decode cX9_timeBy 41 = .ok (.iadd, 1) := by decide +kernel
theorem dX9_timeBy_42 : decode cX9_timeBy 42 = .ok (.aload_n 0, 1) := by decide +kernel
theorem dX9_timeBy_43 : decode cX9_timeBy 43 = .ok (.iload_n 3, 1) := by decide +kernel
theorem dX9_timeBy_44 : decode cX9_timeBy 44 = .ok (.invokevirtual 145, 3) := by decide +kernel
theorem dX9_timeBy_47 : decode cX9_timeBy 47 = .ok (.iadd, 1) := by decide +kernel
theorem dX9_timeBy_48 : decode cX9_timeBy 48 = .ok (.ireturn, 1) := by decide +kernel
set_option maxRecDepth 20000 in
theorem ggX9_findRests_X9_exitColumn : GoodIn wsX9_findRests wsX9_exitColumn := goodIn_r _ [8, 9, 10, 38, 39, 40, 41, 42, 43, 44, 45, 46, 47, 48, 49, 50, 51, 52, 53, 54, 55, 56, 57] (by decide +kernel) (by decide +kernel)
set_option maxRecDepth 20000 in
theorem gX9_findRests_X9_exitColumn : GoodIn wsX9_findRests (wsV RX9 151 RX9 yX9_exitColumn wsX9_exitColumn) := goodIn_app (goodIn_of _ (by decide +kernel)) ggX9_findRests_X9_exitColumn
set_option maxRecDepth 20000 in
theorem ggX9_findRests_X9_leastFrom : GoodIn wsX9_findRests wsX9_leastFrom := goodIn_r _ [14, 15, 1, 16, 17, 18, 7, 19, 2, 20, 21, 22, 23, 3, 24, 25, 26, 27, 28, 29, 30, 31, 32, 10, 9, 33, 34, 35, 36, 37, 38, 39, 40, 41, 42, 43, 44, 45, 46, 47, 48, 49, 50, 51, 52, 53, 54, 55, 56, 57] (by decide +kernel) (by decide +kernel)
set_option maxRecDepth 20000 in
theorem gX9_findRests_X9_leastFrom : GoodIn wsX9_findRests (wsV RX9 154 RX9 yX9_leastFrom wsX9_leastFrom) := goodIn_app (goodIn_of _ (by decide +kernel)) ggX9_findRests_X9_leastFrom
theorem dX9_findRests_0 : decode cX9_findRests 0 = .ok (.iconst 0, 1) := by decide +kernel
theorem dX9_findRests_1 : decode cX9_findRests 1 = .ok (.istore_n 1, 1) := by decide +kernel
theorem dX9_findRests_2 : decode cX9_findRests 2 = .ok (.iload_n 1, 1) := by decide +kernel
theorem dX9_findRests_3 : decode cX9_findRests 3 = .ok (.iconst 1, 1) := by decide +kernel
theorem dX9_findRests_4 : decode cX9_findRests 4 = .ok (.aload_n 0, 1) := by decide +kernel
theorem dX9_findRests_5 : decode cX9_findRests 5 = .ok (.getfield 58, 3) := by decide +kernel
theorem dX9_findRests_8 : decode cX9_findRests 8 = .ok (.ishl, 1) := by decide +kernel
theorem dX9_findRests_9 : decode cX9_findRests 9 = .ok (.if_icmp .ge 64, 3) := by decide +kernel
theorem dX9_findRests_12 : decode cX9_findRests 12 = .ok (.iconst 0, 1) := by decide +kernel
theorem dX9_findRests_13 : decode cX9_findRests 13 = .ok (.istore_n 2, 1) := by decide +kernel
theorem dX9_findRests_14 : decode cX9_findRests 14 = .ok (.iload_n 2, 1) := by decide +kernel
theorem dX9_findRests_15 : decode cX9_findRests 15 = .ok (.iconst 2, 1) := by decide +kernel
theorem dX9_findRests_16 : decode cX9_findRests 16 = .ok (.aload_n 0, 1) := by decide +kernel
theorem dX9_findRests_17 : decode cX9_findRests 17 = .ok (.getfield 58, 3) := by decide +kernel
theorem dX9_findRests_20 : decode cX9_findRests 20 = .ok (.imul, 1) := by decide +kernel
theorem dX9_findRests_21 : decode cX9_findRests 21 = .ok (.if_icmp .ge 46, 3) := by decide +kernel
theorem dX9_findRests_24 : decode cX9_findRests 24 = .ok (.aload_n 0, 1) := by decide +kernel
theorem dX9_findRests_25 : decode cX9_findRests 25 = .ok (.getfield 45, 3) := by decide +kernel
theorem dX9_findRests_28 : decode cX9_findRests 28 = .ok (.bipush 16, 2) := by decide +kernel
theorem dX9_findRests_30 : decode cX9_findRests 30 = .ok (.iload_n 1, 1) := by decide +kernel
theorem dX9_findRests_31 : decode cX9_findRests 31 = .ok (.imul, 1) := by decide +kernel
theorem dX9_findRests_32 : decode cX9_findRests 32 = .ok (.iload_n 2, 1) := by decide +kernel
theorem dX9_findRests_33 : decode cX9_findRests 33 = .ok (.iadd, 1) := by decide +kernel
theorem dX9_findRests_34 : decode cX9_findRests 34 = .ok (.iload_n 1, 1) := by decide +kernel
theorem dX9_findRests_35 : decode cX9_findRests 35 = .ok (.ifCond .ne 7, 3) := by decide +kernel
theorem dX9_findRests_38 : decode cX9_findRests 38 = .ok (.iconst 0, 1) := by decide +kernel
theorem dX9_findRests_39 : decode cX9_findRests 39 = .ok (.goto 21, 3) := by decide +kernel
theorem dX9_findRests_42 : decode cX9_findRests 42 = .ok (.aload_n 0, 1) := by decide +kernel
theorem dX9_findRests_43 : decode cX9_findRests 43 = .ok (.aload_n 0, 1) := by decide +kernel
theorem dX9_findRests_44 : decode cX9_findRests 44 = .ok (.getfield 29, 3) := by decide +kernel
theorem dX9_findRests_47 : decode cX9_findRests 47 = .ok (.iload_n 2, 1) := by decide +kernel
theorem dX9_findRests_48 : decode cX9_findRests 48 = .ok (.iconst 2, 1) := by decide +kernel
theorem dX9_findRests_49 : decode cX9_findRests 49 = .ok (.idiv, 1) := by decide +kernel
theorem dX9_findRests_50 : decode cX9_findRests 50 = .ok (.iaload, 1) := by decide +kernel
theorem dX9_findRests_51 : decode cX9_findRests 51 = .ok (.aload_n 0, 1) := by decide +kernel
theorem dX9_findRests_52 : decode cX9_findRests 52 = .ok (.iload_n 2, 1) := by decide +kernel
theorem dX9_findRests_53 : decode cX9_findRests 53 = .ok (.invokevirtual 151, 3) := by decide +kernel
theorem dX9_findRests_56 : decode cX9_findRests 56 = .ok (.iload_n 1, 1) := by decide +kernel
theorem dX9_findRests_57 : decode cX9_findRests 57 = .ok (.invokevirtual 154, 3) := by decide +kernel
theorem dX9_findRests_60 : decode cX9_findRests 60 = .ok (.iastore, 1) := by decide +kernel
theorem dX9_findRests_61 : decode cX9_findRests 61 = .ok (.iinc 2 1, 3) := by decide +kernel
theorem dX9_findRests_64 : decode cX9_findRests 64 = .ok (.goto (-50), 3) := by decide +kernel
theorem dX9_findRests_67 : decode cX9_findRests 67 = .ok (.iinc 1 1, 3) := by decide +kernel
theorem dX9_findRests_70 : decode cX9_findRests 70 = .ok (.goto (-68), 3) := by decide +kernel
theorem dX9_findRests_73 : decode cX9_findRests 73 = .ok (.return_, 1) := by decide +kernel
set_option maxRecDepth 20000 in
theorem ggX9_totalBy_X9_timeBy : GoodIn wsX9_totalBy wsX9_timeBy := goodIn_r _ [6, 7, 8, 9, 10, 11, 5, 12, 13, 14, 15, 16, 17, 18, 19, 20, 21, 22, 23, 24, 25, 26, 27, 28, 29, 30, 31, 32, 33, 34, 35, 36, 37, 38, 39, 40, 41, 42, 43] (by decide +kernel) (by decide +kernel)
set_option maxRecDepth 20000 in
theorem gX9_totalBy_X9_timeBy : GoodIn wsX9_totalBy (wsV RX9 157 RX9 yX9_timeBy wsX9_timeBy) := goodIn_app (goodIn_of _ (by decide +kernel)) ggX9_totalBy_X9_timeBy
theorem dX9_totalBy_0 : decode cX9_totalBy 0 = .ok (.aload_n 0, 1) := by decide +kernel
theorem dX9_totalBy_1 : decode cX9_totalBy 1 = .ok (.iload_n 1, 1) := by decide +kernel
theorem dX9_totalBy_2 : decode cX9_totalBy 2 = .ok (.iload_n 2, 1) := by decide +kernel
theorem dX9_totalBy_3 : decode cX9_totalBy 3 = .ok (.iload 4, 2) := by decide +kernel
theorem dX9_totalBy_5 : decode cX9_totalBy 5 = .ok (.invokevirtual 157, 3) := by decide +kernel
theorem dX9_totalBy_8 : decode cX9_totalBy 8 = .ok (.aload_n 0, 1) := by decide +kernel
theorem dX9_totalBy_9 : decode cX9_totalBy 9 = .ok (.getfield 45, 3) := by decide +kernel
theorem dX9_totalBy_12 : decode cX9_totalBy 12 = .ok (.bipush 16, 2) := by decide +kernel
theorem dX9_totalBy_14 : decode cX9_totalBy 14 = .ok (.iload_n 3, 1) := by decide +kernel
theorem dX9_totalBy_15 : decode cX9_totalBy 15 = .ok (.iconst 1, 1) := by decide +kernel
theorem dX9_totalBy_16 : decode cX9_totalBy 16 = .ok (.iload 4, 2) := by decide +kernel
theorem dX9_totalBy_18 : decode cX9_totalBy 18 = .ok (.iconst 2, 1) := by decide +kernel
theorem dX9_totalBy_19 : decode cX9_totalBy 19 = .ok (.idiv, 1) := by decide +kernel
theorem dX9_totalBy_20 : decode cX9_totalBy 20 = .ok (.ishl, 1) := by decide +kernel
theorem dX9_totalBy_21 : decode cX9_totalBy 21 = .ok (.iconst (-1), 1) := by decide +kernel
theorem dX9_totalBy_22 : decode cX9_totalBy 22 = .ok (.ixor, 1) := by decide +kernel
theorem dX9_totalBy_23 : decode cX9_totalBy 23 = .ok (.iand, 1) := by decide +kernel
theorem dX9_totalBy_24 : decode cX9_totalBy 24 = .ok (.imul, 1) := by decide +kernel
theorem dX9_totalBy_25 : decode cX9_totalBy 25 = .ok (.iload 4, 2) := by decide +kernel
theorem dX9_totalBy_27 : decode cX9_totalBy 27 = .ok (.iadd, 1) := by decide +kernel
theorem dX9_totalBy_28 : decode cX9_totalBy 28 = .ok (.iaload, 1) := by decide +kernel
theorem dX9_totalBy_29 : decode cX9_totalBy 29 = .ok (.iadd, 1) := by decide +kernel
theorem dX9_totalBy_30 : decode cX9_totalBy 30 = .ok (.ireturn, 1) := by decide +kernel
set_option maxRecDepth 20000 in
theorem ggX9_leastFrom_X9_totalBy : GoodIn wsX9_leastFrom wsX9_totalBy := goodIn_r _ [7, 8, 9, 10, 11, 6, 12, 13, 14, 15, 16, 17, 18, 19, 20, 21, 22, 23, 24, 25, 26, 27, 28, 29, 30, 31, 32, 33, 34, 35, 36, 37, 38, 39, 40, 41, 42, 43, 44, 45, 46, 47, 48, 49] (by decide +kernel) (by decide +kernel)
set_option maxRecDepth 20000 in
theorem gX9_leastFrom_X9_totalBy : GoodIn wsX9_leastFrom (wsV RX9 160 RX9 yX9_totalBy wsX9_totalBy) := goodIn_app (goodIn_of _ (by decide +kernel)) ggX9_leastFrom_X9_totalBy
theorem dX9_leastFrom_0 : decode cX9_leastFrom 0 = .ok (.ldc 123, 2) := by decide +kernel
theorem dX9_leastFrom_2 : decode cX9_leastFrom 2 = .ok (.istore 4, 2) := by decide +kernel
theorem dX9_leastFrom_4 : decode cX9_leastFrom 4 = .ok (.iconst 0, 1) := by decide +kernel
theorem dX9_leastFrom_5 : decode cX9_leastFrom 5 = .ok (.istore 5, 2) := by decide +kernel
theorem dX9_leastFrom_7 : decode cX9_leastFrom 7 = .ok (.iload 5, 2) := by decide +kernel
theorem dX9_leastFrom_9 : decode cX9_leastFrom 9 = .ok (.iconst 2, 1) := by decide +kernel
theorem dX9_leastFrom_10 : decode cX9_leastFrom 10 = .ok (.aload_n 0, 1) := by decide +kernel
theorem dX9_leastFrom_11 : decode cX9_leastFrom 11 = .ok (.getfield 58, 3) := by decide +kernel
theorem dX9_leastFrom_14 : decode cX9_leastFrom 14 = .ok (.imul, 1) := by decide +kernel
theorem dX9_leastFrom_15 : decode cX9_leastFrom 15 = .ok (.if_icmp .ge 48, 3) := by decide +kernel
theorem dX9_leastFrom_18 : decode cX9_leastFrom 18 = .ok (.iload_n 3, 1) := by decide +kernel
theorem dX9_leastFrom_19 : decode cX9_leastFrom 19 = .ok (.iload 5, 2) := by decide +kernel
theorem dX9_leastFrom_21 : decode cX9_leastFrom 21 = .ok (.iconst 2, 1) := by decide +kernel
theorem dX9_leastFrom_22 : decode cX9_leastFrom 22 = .ok (.idiv, 1) := by decide +kernel
theorem dX9_leastFrom_23 : decode cX9_leastFrom 23 = .ok (.ishr, 1) := by decide +kernel
theorem dX9_leastFrom_24 : decode cX9_leastFrom 24 = .ok (.iconst 1, 1) := by decide +kernel
theorem dX9_leastFrom_25 : decode cX9_leastFrom 25 = .ok (.iand, 1) := by decide +kernel
theorem dX9_leastFrom_26 : decode cX9_leastFrom 26 = .ok (.iconst 1, 1) := by decide +kernel
theorem dX9_leastFrom_27 : decode cX9_leastFrom 27 = .ok (.if_icmp .ne 30, 3) := by decide +kernel
theorem dX9_leastFrom_30 : decode cX9_leastFrom 30 = .ok (.aload_n 0, 1) := by decide +kernel
theorem dX9_leastFrom_31 : decode cX9_leastFrom 31 = .ok (.iload_n 1, 1) := by decide +kernel
theorem dX9_leastFrom_32 : decode cX9_leastFrom 32 = .ok (.iload_n 2, 1) := by decide +kernel
theorem dX9_leastFrom_33 : decode cX9_leastFrom 33 = .ok (.iload_n 3, 1) := by decide +kernel
theorem dX9_leastFrom_34 : decode cX9_leastFrom 34 = .ok (.iload 5, 2) := by decide +kernel
theorem dX9_leastFrom_36 : decode cX9_leastFrom 36 = .ok (.invokevirtual 160, 3) := by decide +kernel
theorem dX9_leastFrom_39 : decode cX9_leastFrom 39 = .ok (.istore 6, 2) := by decide +kernel
theorem dX9_leastFrom_41 : decode cX9_leastFrom 41 = .ok (.iload 6, 2) := by decide +kernel
theorem dX9_leastFrom_43 : decode cX9_leastFrom 43 = .ok (.iload 4, 2) := by decide +kernel
theorem dX9_leastFrom_45 : decode cX9_leastFrom 45 = .ok (.if_icmp .ge 8, 3) := by decide +kernel
theorem dX9_leastFrom_48 : decode cX9_leastFrom 48 = .ok (.iload 6, 2) := by decide +kernel
theorem dX9_leastFrom_50 : decode cX9_leastFrom 50 = .ok (.goto 5, 3) := by decide +kernel
theorem dX9_leastFrom_53 : decode cX9_leastFrom 53 = .ok (.iload 4, 2) := by decide +kernel
theorem dX9_leastFrom_55 : decode cX9_leastFrom 55 = .ok (.istore 4, 2) := by decide +kernel
theorem dX9_leastFrom_57 : decode cX9_leastFrom 57 = .ok (.iinc 5 1, 3) := by decide +kernel
theorem dX9_leastFrom_60 : decode cX9_leastFrom 60 = .ok (.goto (-53), 3) := by decide +kernel
theorem dX9_leastFrom_63 : decode cX9_leastFrom 63 = .ok (.iload 4, 2) := by decide +kernel
theorem dX9_leastFrom_65 : decode cX9_leastFrom 65 = .ok (.ireturn, 1) := by decide +kernel
set_option maxRecDepth 20000 in
theorem ggX9_routeTime_X9_isCell : GoodIn wsX9_routeTime wsX9_isCell := goodIn_r _ [6, 7, 8, 9, 10, 5, 11, 51, 52, 53, 54, 55, 56, 57, 58, 59, 60, 61, 62, 63, 64, 65, 66, 67, 68, 69, 70] (by decide +kernel) (by decide +kernel)
set_option maxRecDepth 20000 in
theorem gX9_routeTime_X9_isCell : GoodIn wsX9_routeTime (wsV RX9 61 RX9 yX9_isCell wsX9_isCell) := goodIn_app (goodIn_of _ (by decide +kernel)) ggX9_routeTime_X9_isCell
set_option maxRecDepth 20000 in
theorem ggX9_routeTime_X9_findRests : GoodIn wsX9_routeTime wsX9_findRests := goodIn_r _ [15, 1, 16, 17, 18, 19, 20, 5, 21, 22, 23, 24, 25, 26, 27, 28, 29, 30, 31, 32, 33, 34, 35, 36, 37, 38, 39, 40, 41, 42, 43, 44, 45, 46, 47, 48, 49, 50, 51, 52, 53, 54, 55, 56, 57, 58, 59, 60, 61, 62, 63, 64, 65, 66, 67, 68, 69, 70] (by decide +kernel) (by decide +kernel)
set_option maxRecDepth 20000 in
theorem gX9_routeTime_X9_findRests : GoodIn wsX9_routeTime (wsV RX9 164 RX9 yX9_findRests wsX9_findRests) := goodIn_app (goodIn_of _ (by decide +kernel)) ggX9_routeTime_X9_findRests
set_option maxRecDepth 20000 in
theorem ggX9_routeTime_X9_leastFrom : GoodIn wsX9_routeTime wsX9_leastFrom := goodIn_r _ [27, 28, 1, 29, 30, 31, 5, 32, 16, 33, 34, 35, 36, 17, 37, 38, 39, 40, 41, 42, 43, 44, 45, 23, 22, 46, 47, 48, 49, 50, 51, 52, 53, 54, 55, 56, 57, 58, 59, 60, 61, 62, 63, 64, 65, 66, 67, 68, 69, 70] (by decide +kernel) (by decide +kernel)
set_option maxRecDepth 20000 in
theorem gX9_routeTime_X9_leastFrom : GoodIn wsX9_routeTime (wsV RX9 154 RX9 yX9_leastFrom wsX9_leastFrom) := goodIn_app (goodIn_of _ (by decide +kernel)) ggX9_routeTime_X9_leastFrom
theorem dX9_routeTime_0 : decode cX9_routeTime 0 = .ok (.aload_n 0, 1) := by decide +kernel
theorem dX9_routeTime_1 : decode cX9_routeTime 1 = .ok (.iload_n 1, 1) := by decide +kernel
theorem dX9_routeTime_2 : decode cX9_routeTime 2 = .ok (.iload_n 2, 1) := by decide +kernel
theorem dX9_routeTime_3 : decode cX9_routeTime 3 = .ok (.invokevirtual 61, 3) := by decide +kernel
theorem dX9_routeTime_6 : decode cX9_routeTime 6 = .ok (.ifCond .ne 5, 3) := by decide +kernel
theorem dX9_routeTime_9 : decode cX9_routeTime 9 = .ok (.iconst (-1), 1) := by decide +kernel
theorem dX9_routeTime_10 : decode cX9_routeTime 10 = .ok (.ireturn, 1) := by decide +kernel
theorem dX9_routeTime_11 : decode cX9_routeTime 11 = .ok (.aload_n 0, 1) := by decide +kernel
theorem dX9_routeTime_12 : decode cX9_routeTime 12 = .ok (.invokevirtual 164, 3) := by decide +kernel
theorem dX9_routeTime_15 : decode cX9_routeTime 15 = .ok (.aload_n 0, 1) := by decide +kernel
theorem dX9_routeTime_16 : decode cX9_routeTime 16 = .ok (.getfield 58, 3) := by decide +kernel
theorem dX9_routeTime_19 : decode cX9_routeTime 19 = .ok (.ifCond .ne 7, 3) := by decide +kernel
theorem dX9_routeTime_22 : decode cX9_routeTime 22 = .ok (.iconst 0, 1) := by decide +kernel
theorem dX9_routeTime_23 : decode cX9_routeTime 23 = .ok (.goto 17, 3) := by decide +kernel
theorem dX9_routeTime_26 : decode cX9_routeTime 26 = .ok (.aload_n 0, 1) := by decide +kernel
theorem dX9_routeTime_27 : decode cX9_routeTime 27 = .ok (.iload_n 1, 1) := by decide +kernel
theorem dX9_routeTime_28 : decode cX9_routeTime 28 = .ok (.iload_n 2, 1) := by decide +kernel
theorem dX9_routeTime_29 : decode cX9_routeTime 29 = .ok (.iconst 1, 1) := by decide +kernel
theorem dX9_routeTime_30 : decode cX9_routeTime 30 = .ok (.aload_n 0, 1) := by decide +kernel
theorem dX9_routeTime_31 : decode cX9_routeTime 31 = .ok (.getfield 58, 3) := by decide +kernel
theorem dX9_routeTime_34 : decode cX9_routeTime 34 = .ok (.ishl, 1) := by decide +kernel
theorem dX9_routeTime_35 : decode cX9_routeTime 35 = .ok (.iconst 1, 1) := by decide +kernel
theorem dX9_routeTime_36 : decode cX9_routeTime 36 = .ok (.isub, 1) := by decide +kernel
theorem dX9_routeTime_37 : decode cX9_routeTime 37 = .ok (.invokevirtual 154, 3) := by decide +kernel
theorem dX9_routeTime_40 : decode cX9_routeTime 40 = .ok (.ireturn, 1) := by decide +kernel
set_option maxRecDepth 20000 in
theorem ggX9_firstLeg_X9_leastFrom : GoodIn wsX9_firstLeg wsX9_leastFrom := goodIn_r _ [5, 6, 7, 8, 9, 10, 4, 11, 12, 13, 14, 15, 16, 17, 18, 19, 20, 21, 22, 23, 24, 25, 26, 27, 28, 29, 30, 31, 32, 33, 34, 35, 36, 37, 38, 39, 40, 41, 42, 43, 44, 45, 46, 47, 48, 49, 50, 51, 52, 53] (by decide +kernel) (by decide +kernel)
set_option maxRecDepth 20000 in
theorem gX9_firstLeg_X9_leastFrom : GoodIn wsX9_firstLeg (wsV RX9 154 RX9 yX9_leastFrom wsX9_leastFrom) := goodIn_app (goodIn_of _ (by decide +kernel)) ggX9_firstLeg_X9_leastFrom
set_option maxRecDepth 20000 in
theorem ggX9_firstLeg_X9_totalBy : GoodIn wsX9_firstLeg wsX9_totalBy := goodIn_r _ [11, 12, 13, 14, 15, 4, 16, 17, 18, 19, 20, 21, 22, 23, 24, 25, 26, 27, 28, 29, 30, 31, 32, 33, 34, 35, 36, 37, 38, 39, 40, 41, 42, 43, 44, 45, 46, 47, 48, 49, 50, 51, 52, 53] (by decide +kernel) (by decide +kernel)
set_option maxRecDepth 20000 in
theorem gX9_firstLeg_X9_totalBy : GoodIn wsX9_firstLeg (wsV RX9 160 RX9 yX9_totalBy wsX9_totalBy) := goodIn_app (goodIn_of _ (by decide +kernel)) ggX9_firstLeg_X9_totalBy
theorem dX9_firstLeg_0 : decode cX9_firstLeg 0 = .ok (.aload_n 0, 1) := by decide +kernel
theorem dX9_firstLeg_1 : decode cX9_firstLeg 1 = .ok (.iload_n 1, 1) := by decide +kernel
theorem dX9_firstLeg_2 : decode cX9_firstLeg 2 = .ok (.iload_n 2, 1) := by decide +kernel
theorem dX9_firstLeg_3 : decode cX9_firstLeg 3 = .ok (.iload_n 3, 1) := by decide +kernel
theorem dX9_firstLeg_4 : decode cX9_firstLeg 4 = .ok (.invokevirtual 154, 3) := by decide +kernel
theorem dX9_firstLeg_7 : decode cX9_firstLeg 7 = .ok (.istore 4, 2) := by decide +kernel
theorem dX9_firstLeg_9 : decode cX9_firstLeg 9 = .ok (.iconst 0, 1) := by decide +kernel
theorem dX9_firstLeg_10 : decode cX9_firstLeg 10 = .ok (.istore 5, 2) := by decide +kernel
theorem dX9_firstLeg_12 : decode cX9_firstLeg 12 = .ok (.iload_n 3, 1) := by decide +kernel
theorem dX9_firstLeg_13 : decode cX9_firstLeg 13 = .ok (.iload 5, 2) := by decide +kernel
theorem dX9_firstLeg_15 : decode cX9_firstLeg 15 = .ok (.iconst 2, 1) := by decide +kernel
theorem dX9_firstLeg_16 : decode cX9_firstLeg 16 = .ok (.idiv, 1) := by decide +kernel
theorem dX9_firstLeg_17 : decode cX9_firstLeg 17 = .ok (.ishr, 1) := by decide +kernel
theorem dX9_firstLeg_18 : decode cX9_firstLeg 18 = .ok (.iconst 1, 1) := by decide +kernel
theorem dX9_firstLeg_19 : decode cX9_firstLeg 19 = .ok (.iand, 1) := by decide +kernel
theorem dX9_firstLeg_20 : decode cX9_firstLeg 20 = .ok (.ifCond .eq 17, 3) := by decide +kernel
theorem dX9_firstLeg_23 : decode cX9_firstLeg 23 = .ok (.aload_n 0, 1) := by decide +kernel
theorem dX9_firstLeg_24 : decode cX9_firstLeg 24 = .ok (.iload_n 1, 1) := by decide +kernel
theorem dX9_firstLeg_25 : decode cX9_firstLeg 25 = .ok (.iload_n 2, 1) := by decide +kernel
theorem dX9_firstLeg_26 : decode cX9_firstLeg 26 = .ok (.iload_n 3, 1) := by decide +kernel
theorem dX9_firstLeg_27 : decode cX9_firstLeg 27 = .ok (.iload 5, 2) := by decide +kernel
theorem dX9_firstLeg_29 : decode cX9_firstLeg 29 = .ok (.invokevirtual 160, 3) := by decide +kernel
theorem dX9_firstLeg_32 : decode cX9_firstLeg 32 = .ok (.iload 4, 2) := by decide +kernel
theorem dX9_firstLeg_34 : decode cX9_firstLeg 34 = .ok (.if_icmp .eq 9, 3) := by decide +kernel
theorem dX9_firstLeg_37 : decode cX9_firstLeg 37 = .ok (.iinc 5 1, 3) := by decide +kernel
theorem dX9_firstLeg_40 : decode cX9_firstLeg 40 = .ok (.goto (-28), 3) := by decide +kernel
theorem dX9_firstLeg_43 : decode cX9_firstLeg 43 = .ok (.iload 5, 2) := by decide +kernel
theorem dX9_firstLeg_45 : decode cX9_firstLeg 45 = .ok (.ireturn, 1) := by decide +kernel
set_option maxRecDepth 20000 in
theorem ggX9_routeStep_X9_isCell : GoodIn wsX9_routeStep wsX9_isCell := goodIn_r _ [7, 8, 9, 10, 11, 6, 12, 55, 56, 57, 58, 59, 60, 61, 62, 63, 64, 65, 66, 67, 68, 69, 70, 71, 72, 73, 74] (by decide +kernel) (by decide +kernel)
set_option maxRecDepth 20000 in
theorem gX9_routeStep_X9_isCell : GoodIn wsX9_routeStep (wsV RX9 61 RX9 yX9_isCell wsX9_isCell) := goodIn_app (goodIn_of _ (by decide +kernel)) ggX9_routeStep_X9_isCell
set_option maxRecDepth 20000 in
theorem ggX9_routeStep_X9_findRests : GoodIn wsX9_routeStep wsX9_findRests := goodIn_r _ [16, 1, 17, 2, 18, 19, 20, 6, 21, 22, 23, 24, 25, 26, 27, 28, 29, 30, 31, 32, 33, 34, 35, 36, 37, 38, 39, 40, 41, 42, 43, 44, 45, 46, 47, 48, 49, 50, 55, 56, 57, 58, 59, 60, 61, 62, 63, 64, 65, 66, 67, 68, 69, 70, 71, 72, 73, 74] (by decide +kernel) (by decide +kernel)
set_option maxRecDepth 20000 in
theorem gX9_routeStep_X9_findRests : GoodIn wsX9_routeStep (wsV RX9 164 RX9 yX9_findRests wsX9_findRests) := goodIn_app (goodIn_of _ (by decide +kernel)) ggX9_routeStep_X9_findRests
set_option maxRecDepth 20000 in
theorem ggX9_routeStep_X9_firstLeg : GoodIn wsX9_routeStep wsX9_firstLeg := goodIn_r _ [54, 24, 25, 26, 6, 27, 28, 1, 29, 30, 31, 32, 17, 33, 34, 35, 36, 2, 37, 38, 39, 40, 41, 42, 43, 44, 45, 23, 22, 46, 47, 48, 49, 50, 55, 56, 57, 58, 59, 60, 61, 62, 63, 64, 65, 66, 67, 68, 69, 70, 71, 72, 73, 74] (by decide +kernel) (by decide +kernel)
set_option maxRecDepth 20000 in
theorem gX9_routeStep_X9_firstLeg : GoodIn wsX9_routeStep (wsV RX9 167 RX9 yX9_firstLeg wsX9_firstLeg) := goodIn_app (goodIn_of _ (by decide +kernel)) ggX9_routeStep_X9_firstLeg
set_option maxRecDepth 20000 in
theorem ggX9_routeStep_X9_exitColumn : GoodIn wsX9_routeStep wsX9_exitColumn := goodIn_r _ [21, 22, 23, 55, 56, 57, 58, 59, 60, 61, 62, 63, 64, 65, 66, 67, 68, 69, 70, 71, 72, 73, 74] (by decide +kernel) (by decide +kernel)
set_option maxRecDepth 20000 in
theorem gX9_routeStep_X9_exitColumn : GoodIn wsX9_routeStep (wsV RX9 151 RX9 yX9_exitColumn wsX9_exitColumn) := goodIn_app (goodIn_of _ (by decide +kernel)) ggX9_routeStep_X9_exitColumn
theorem dX9_routeStep_0 : decode cX9_routeStep 0 = .ok (.aload_n 0, 1) := by decide +kernel
theorem dX9_routeStep_1 : decode cX9_routeStep 1 = .ok (.iload_n 1, 1) := by decide +kernel
theorem dX9_routeStep_2 : decode cX9_routeStep 2 = .ok (.iload_n 2, 1) := by decide +kernel
theorem dX9_routeStep_3 : decode cX9_routeStep 3 = .ok (.invokevirtual 61, 3) := by decide +kernel
theorem dX9_routeStep_6 : decode cX9_routeStep 6 = .ok (.ifCond .ne 5, 3) := by decide +kernel
theorem dX9_routeStep_9 : decode cX9_routeStep 9 = .ok (.iconst (-1), 1) := by decide +kernel
theorem dX9_routeStep_10 : decode cX9_routeStep 10 = .ok (.ireturn, 1) := by decide +kernel
theorem dX9_routeStep_11 : decode cX9_routeStep 11 = .ok (.iload_n 3, 1) := by decide +kernel
theorem dX9_routeStep_12 : decode cX9_routeStep 12 = .ok (.ifCond .ge 6, 3) := by decide +kernel
theorem dX9_routeStep_15 : decode cX9_routeStep 15 = .ok (.bipush (-4), 2) := by decide +kernel
theorem dX9_routeStep_17 : decode cX9_routeStep 17 = .ok (.ireturn, 1) := by decide +kernel
theorem dX9_routeStep_18 : decode cX9_routeStep 18 = .ok (.iload_n 3, 1) := by decide +kernel
theorem dX9_routeStep_19 : decode cX9_routeStep 19 = .ok (.aload_n 0, 1) := by decide +kernel
theorem dX9_routeStep_20 : decode cX9_routeStep 20 = .ok (.getfield 58, 3) := by decide +kernel
theorem dX9_routeStep_23 : decode cX9_routeStep 23 = .ok (.if_icmp .lt 6, 3) := by decide +kernel
theorem dX9_routeStep_26 : decode cX9_routeStep 26 = .ok (.bipush (-6), 2) := by decide +kernel
theorem dX9_routeStep_28 : decode cX9_routeStep 28 = .ok (.ireturn, 1) := by decide +kernel
theorem dX9_routeStep_29 : decode cX9_routeStep 29 = .ok (.aload_n 0, 1) := by decide +kernel
theorem dX9_routeStep_30 : decode cX9_routeStep 30 = .ok (.invokevirtual 164, 3) := by decide +kernel
theorem dX9_routeStep_33 : decode cX9_routeStep 33 = .ok (.iconst 1, 1) := by decide +kernel
theorem dX9_routeStep_34 : decode cX9_routeStep 34 = .ok (.aload_n 0, 1) := by decide +kernel
theorem dX9_routeStep_35 : decode cX9_routeStep 35 = .ok (.getfield 58, 3) := by decide +kernel
theorem dX9_routeStep_38 : decode cX9_routeStep 38 = .ok (.ishl, 1) := by decide +kernel
theorem dX9_routeStep_39 : decode cX9_routeStep 39 = .ok (.iconst 1, 1) := by decide +kernel
theorem dX9_routeStep_40 : decode cX9_routeStep 40 = .ok (.isub, 1) := by decide +kernel
theorem dX9_routeStep_41 : decode cX9_routeStep 41 = .ok (.istore 4, 2) := by decide +kernel
theorem dX9_routeStep_43 : decode cX9_routeStep 43 = .ok (.aload_n 0, 1) := by decide +kernel
theorem dX9_routeStep_44 : decode cX9_routeStep 44 = .ok (.iload_n 1, 1) := by decide +kernel
theorem dX9_routeStep_45 : decode cX9_routeStep 45 = .ok (.iload_n 2, 1) := by decide +kernel
theorem dX9_routeStep_46 : decode cX9_routeStep 46 = .ok (.iload 4, 2) := by decide +kernel
theorem dX9_routeStep_48 : decode cX9_routeStep 48 = .ok (.invokevirtual 167, 3) := by decide +kernel
theorem dX9_routeStep_51 : decode cX9_routeStep 51 = .ok (.istore 5, 2) := by decide +kernel
theorem dX9_routeStep_53 : decode cX9_routeStep 53 = .ok (.iconst 0, 1) := by decide +kernel
theorem dX9_routeStep_54 : decode cX9_routeStep 54 = .ok (.istore 6, 2) := by decide +kernel
theorem dX9_routeStep_56 : decode cX9_routeStep 56 = .ok (.iload 6, 2) := by decide +kernel
theorem dX9_routeStep_58 : decode cX9_routeStep 58 = .ok (.iload_n 3, 1) := by decide +kernel
theorem dX9_routeStep_59 : decode cX9_routeStep 59 = .ok (.if_icmp .ge 45, 3) := by decide +kernel
theorem dX9_routeStep_62 : decode cX9_routeStep 62 = .ok (.iload 4, 2) := by decide +kernel
theorem dX9_routeStep_64 : decode cX9_routeStep 64 = .ok (.iconst 1, 1) := by decide +kernel
theorem dX9_routeStep_65 : decode cX9_routeStep 65 = .ok (.iload 5, 2) := by decide +kernel
theorem dX9_routeStep_67 : decode cX9_routeStep 67 = .ok (.iconst 2, 1) := by decide +kernel
theorem dX9_routeStep_68 : decode cX9_routeStep 68 = .ok (.idiv, 1) := by decide +kernel
theorem dX9_routeStep_69 : decode cX9_routeStep 69 = .ok (.ishl, 1) := by decide +kernel
theorem dX9_routeStep_70 : decode cX9_routeStep 70 = .ok (.iconst (-1), 1) := by decide +kernel
theorem dX9_routeStep_71 : decode cX9_routeStep 71 = .ok (.ixor, 1) := by decide +kernel
theorem dX9_routeStep_72 : decode cX9_routeStep 72 = .ok (.iand, 1) := by decide +kernel
theorem dX9_routeStep_73 : decode cX9_routeStep 73 = .ok (.istore 4, 2) := by decide +kernel
theorem dX9_routeStep_75 : decode cX9_routeStep 75 = .ok (.aload_n 0, 1) := by decide +kernel
theorem dX9_routeStep_76 : decode cX9_routeStep 76 = .ok (.aload_n 0, 1) := by decide +kernel
theorem dX9_routeStep_77 : decode cX9_routeStep 77 = .ok (.getfield 29, 3) := by decide +kernel
theorem dX9_routeStep_80 : decode cX9_routeStep 80 = .ok (.iload 5, 2) := by decide +kernel
theorem dX9_routeStep_82 : decode cX9_routeStep 82 = .ok (.iconst 2, 1) := by decide +kernel
theorem dX9_routeStep_83 : decode cX9_routeStep 83 = .ok (.idiv, 1) := by decide +kernel
theorem dX9_routeStep_84 : decode cX9_routeStep 84 = .ok (.iaload, 1) := by decide +kernel
theorem dX9_routeStep_85 : decode cX9_routeStep 85 = .ok (.aload_n 0, 1) := by decide +kernel
theorem dX9_routeStep_86 : decode cX9_routeStep 86 = .ok (.iload 5, 2) := by decide +kernel
theorem dX9_routeStep_88 : decode cX9_routeStep 88 = .ok (.invokevirtual 151, 3) := by decide +kernel
theorem dX9_routeStep_91 : decode cX9_routeStep 91 = .ok (.iload 4, 2) := by decide +kernel
theorem dX9_routeStep_93 : decode cX9_routeStep 93 = .ok (.invokevirtual 167, 3) := by decide +kernel
theorem dX9_routeStep_96 : decode cX9_routeStep 96 = .ok (.istore 5, 2) := by decide +kernel
theorem dX9_routeStep_98 : decode cX9_routeStep 98 = .ok (.iinc 6 1, 3) := by decide +kernel
theorem dX9_routeStep_101 : decode cX9_routeStep 101 = .ok (.goto (-45), 3) := by decide +kernel
theorem dX9_routeStep_104 : decode cX9_routeStep 104 = .ok (.iload 5, 2) := by decide +kernel
theorem dX9_routeStep_106 : decode cX9_routeStep 106 = .ok (.ireturn, 1) := by decide +kernel
theorem dJ9_floorDiv_7cf53_0 : decode cJ9_floorDiv_7cf53 0 = .ok (.iload_n 0, 1) := by decide +kernel
theorem dJ9_floorDiv_7cf53_1 : decode cJ9_floorDiv_7cf53 1 = .ok (.iload_n 1, 1) := by decide +kernel
theorem dJ9_floorDiv_7cf53_2 : decode cJ9_floorDiv_7cf53 2 = .ok (.idiv, 1) := by decide +kernel
theorem dJ9_floorDiv_7cf53_3 : decode cJ9_floorDiv_7cf53 3 = .ok (.istore_n 2, 1) := by decide +kernel
theorem dJ9_floorDiv_7cf53_4 : decode cJ9_floorDiv_7cf53 4 = .ok (.iload_n 0, 1) := by decide +kernel
theorem dJ9_floorDiv_7cf53_5 : decode cJ9_floorDiv_7cf53 5 = .ok (.iload_n 1, 1) := by decide +kernel
theorem dJ9_floorDiv_7cf53_6 : decode cJ9_floorDiv_7cf53 6 = .ok (.ixor, 1) := by decide +kernel
theorem dJ9_floorDiv_7cf53_7 : decode cJ9_floorDiv_7cf53 7 = .ok (.ifCond .ge 14, 3) := by decide +kernel
theorem dJ9_floorDiv_7cf53_10 : decode cJ9_floorDiv_7cf53 10 = .ok (.iload_n 2, 1) := by decide +kernel
theorem dJ9_floorDiv_7cf53_11 : decode cJ9_floorDiv_7cf53 11 = .ok (.iload_n 1, 1) := by decide +kernel
theorem dJ9_floorDiv_7cf53_12 : decode cJ9_floorDiv_7cf53 12 = .ok (.imul, 1) := by decide +kernel
theorem dJ9_floorDiv_7cf53_13 : decode cJ9_floorDiv_7cf53 13 = .ok (.iload_n 0, 1) := by decide +kernel
theorem dJ9_floorDiv_7cf53_14 : decode cJ9_floorDiv_7cf53 14 = .ok (.if_icmp .eq 7, 3) := by decide +kernel
theorem dJ9_floorDiv_7cf53_17 : decode cJ9_floorDiv_7cf53 17 = .ok (.iload_n 2, 1) := by decide +kernel
theorem dJ9_floorDiv_7cf53_18 : decode cJ9_floorDiv_7cf53 18 = .ok (.iconst 1, 1) := by decide +kernel
theorem dJ9_floorDiv_7cf53_19 : decode cJ9_floorDiv_7cf53 19 = .ok (.isub, 1) := by decide +kernel
theorem dJ9_floorDiv_7cf53_20 : decode cJ9_floorDiv_7cf53 20 = .ok (.ireturn, 1) := by decide +kernel
theorem dJ9_floorDiv_7cf53_21 : decode cJ9_floorDiv_7cf53 21 = .ok (.iload_n 2, 1) := by decide +kernel
theorem dJ9_floorDiv_7cf53_22 : decode cJ9_floorDiv_7cf53 22 = .ok (.ireturn, 1) := by decide +kernel
theorem dJ9_abs_0f7a4_0 : decode cJ9_abs_0f7a4 0 = .ok (.iload_n 0, 1) := by decide +kernel
theorem dJ9_abs_0f7a4_1 : decode cJ9_abs_0f7a4 1 = .ok (.ifCond .ge 8, 3) := by decide +kernel
theorem dJ9_abs_0f7a4_4 : decode cJ9_abs_0f7a4 4 = .ok (.iload_n 0, 1) := by decide +kernel
theorem dJ9_abs_0f7a4_5 : decode cJ9_abs_0f7a4 5 = .ok (.ineg, 1) := by decide +kernel
theorem dJ9_abs_0f7a4_6 : decode cJ9_abs_0f7a4 6 = .ok (.goto 4, 3) := by decide +kernel
theorem dJ9_abs_0f7a4_9 : decode cJ9_abs_0f7a4 9 = .ok (.iload_n 0, 1) := by decide +kernel
theorem dJ9_abs_0f7a4_10 : decode cJ9_abs_0f7a4 10 = .ok (.ireturn, 1) := by decide +kernel
theorem dJ9_max_7cf53_0 : decode cJ9_max_7cf53 0 = .ok (.iload_n 0, 1) := by decide +kernel
theorem dJ9_max_7cf53_1 : decode cJ9_max_7cf53 1 = .ok (.iload_n 1, 1) := by decide +kernel
theorem dJ9_max_7cf53_2 : decode cJ9_max_7cf53 2 = .ok (.if_icmp .lt 7, 3) := by decide +kernel
theorem dJ9_max_7cf53_5 : decode cJ9_max_7cf53 5 = .ok (.iload_n 0, 1) := by decide +kernel
theorem dJ9_max_7cf53_6 : decode cJ9_max_7cf53 6 = .ok (.goto 4, 3) := by decide +kernel
theorem dJ9_max_7cf53_9 : decode cJ9_max_7cf53 9 = .ok (.iload_n 1, 1) := by decide +kernel
theorem dJ9_max_7cf53_10 : decode cJ9_max_7cf53 10 = .ok (.ireturn, 1) := by decide +kernel
theorem dJ9_min_7cf53_0 : decode cJ9_min_7cf53 0 = .ok (.iload_n 0, 1) := by decide +kernel
theorem dJ9_min_7cf53_1 : decode cJ9_min_7cf53 1 = .ok (.iload_n 1, 1) := by decide +kernel
theorem dJ9_min_7cf53_2 : decode cJ9_min_7cf53 2 = .ok (.if_icmp .gt 7, 3) := by decide +kernel
theorem dJ9_min_7cf53_5 : decode cJ9_min_7cf53 5 = .ok (.iload_n 0, 1) := by decide +kernel
theorem dJ9_min_7cf53_6 : decode cJ9_min_7cf53 6 = .ok (.goto 4, 3) := by decide +kernel
theorem dJ9_min_7cf53_9 : decode cJ9_min_7cf53 9 = .ok (.iload_n 1, 1) := by decide +kernel
theorem dJ9_min_7cf53_10 : decode cJ9_min_7cf53 10 = .ok (.ireturn, 1) := by decide +kernel
