theorem dX5_deal_72 : decode cX5_deal 72 = .ok (.goto (-39), 3) := by decide +kernel
theorem dX5_deal_75 : decode cX5_deal 75 = .ok (.iinc 2 1, 3) := by decide +kernel
theorem dX5_deal_78 : decode cX5_deal 78 = .ok (.goto (-63), 3) := by decide +kernel
theorem dX5_deal_81 : decode cX5_deal 81 = .ok (.aload_n 0, 1) := by decide +kernel
theorem dX5_deal_82 : decode cX5_deal 82 = .ok (.ldc 39, 2) := by decide +kernel
theorem dX5_deal_84 : decode cX5_deal 84 = .ok (.invokevirtual 40, 3) := by decide +kernel
theorem dX5_deal_87 : decode cX5_deal 87 = .ok (.ireturn, 1) := by decide +kernel
set_option maxRecDepth 20000 in
theorem ggX5_fair_X5_is : GoodIn wsX5_fair wsX5_is := goodIn_r _ [7, 1, 84, 85, 86, 87, 88, 89, 90, 91, 92, 93, 94, 95, 96, 97, 98] rfl (by decide +kernel)
set_option maxRecDepth 20000 in
theorem gX5_fair_X5_is : GoodIn wsX5_fair (wsV RX5 44 RX5 yX5_is wsX5_is) := goodIn_app (goodIn_of _ (by decide +kernel)) ggX5_fair_X5_is
set_option maxRecDepth 20000 in
theorem ggX5_fair_X5_laysBy : GoodIn wsX5_fair wsX5_laysBy := goodIn_r _ [11, 12, 1, 84, 85, 86, 87, 88, 89, 90, 91, 92, 93, 94, 95, 96, 97, 98] rfl (by decide +kernel)
set_option maxRecDepth 20000 in
theorem gX5_fair_X5_laysBy : GoodIn wsX5_fair (wsV RX5 138 RX5 yX5_laysBy wsX5_laysBy) := goodIn_app (goodIn_of _ (by decide +kernel)) ggX5_fair_X5_laysBy
set_option maxRecDepth 20000 in
theorem ggX5_fair_X5_races : GoodIn wsX5_fair wsX5_races := goodIn_r _ [16, 1, 17, 18, 19, 6, 20, 3, 4, 5, 7, 21, 22, 23, 24, 25, 26, 27, 28, 29, 30, 31, 32, 33, 34, 35, 36, 37, 38, 39, 40, 41, 42, 43, 44, 45, 46, 47, 48, 49, 50, 51, 52, 53, 54, 55, 56, 57, 58, 59, 60, 61, 62, 63, 64, 65, 66, 67, 68, 69, 70, 71, 72, 73, 84, 85, 86, 87, 88, 89, 90, 91, 92, 93, 94, 95, 96, 97, 98] rfl (by decide +kernel)
set_option maxRecDepth 20000 in
theorem gX5_fair_X5_races : GoodIn wsX5_fair (wsV RX5 154 RX5 yX5_races wsX5_races) := goodIn_app (goodIn_of _ (by decide +kernel)) ggX5_fair_X5_races
set_option maxRecDepth 20000 in
theorem ggX5_fair_X5_laysBack : GoodIn wsX5_fair wsX5_laysBack := goodIn_r _ [77, 1, 12, 84, 85, 86, 87, 88, 89, 90, 91, 92, 93, 94, 95, 96, 97, 98] rfl (by decide +kernel)
set_option maxRecDepth 20000 in
theorem gX5_fair_X5_laysBack : GoodIn wsX5_fair (wsV RX5 145 RX5 yX5_laysBack wsX5_laysBack) := goodIn_app (goodIn_of _ (by decide +kernel)) ggX5_fair_X5_laysBack
set_option maxRecDepth 20000 in
theorem ggX5_fair_X5_finds : GoodIn wsX5_fair wsX5_finds := goodIn_r _ [81, 82, 83, 84, 85, 86, 87, 88, 89, 90, 91, 92, 93, 94, 95, 96, 97, 98] rfl (by decide +kernel)
set_option maxRecDepth 20000 in
theorem gX5_fair_X5_finds : GoodIn wsX5_fair (wsV RX5 40 RX5 yX5_finds wsX5_finds) := goodIn_app (goodIn_of _ (by decide +kernel)) ggX5_fair_X5_finds
theorem dX5_fair_0 : decode cX5_fair 0 = .ok (.iconst (-1), 1) := by decide +kernel
theorem dX5_fair_1 : decode cX5_fair 1 = .ok (.istore_n 1, 1) := by decide +kernel
theorem dX5_fair_2 : decode cX5_fair 2 = .ok (.iconst 0, 1) := by decide +kernel
theorem dX5_fair_3 : decode cX5_fair 3 = .ok (.istore_n 2, 1) := by decide +kernel
theorem dX5_fair_4 : decode cX5_fair 4 = .ok (.iload_n 2, 1) := by decide +kernel
theorem dX5_fair_5 : decode cX5_fair 5 = .ok (.aload_n 0, 1) := by decide +kernel
theorem dX5_fair_6 : decode cX5_fair 6 = .ok (.getfield 7, 3) := by decide +kernel
theorem dX5_fair_9 : decode cX5_fair 9 = .ok (.iconst 0, 1) := by decide +kernel
theorem dX5_fair_10 : decode cX5_fair 10 = .ok (.iaload, 1) := by decide +kernel
theorem dX5_fair_11 : decode cX5_fair 11 = .ok (.if_icmp .ge 34, 3) := by decide +kernel
theorem dX5_fair_14 : decode cX5_fair 14 = .ok (.iload_n 1, 1) := by decide +kernel
theorem dX5_fair_15 : decode cX5_fair 15 = .ok (.ifCond .lt 18, 3) := by decide +kernel
theorem dX5_fair_18 : decode cX5_fair 18 = .ok (.aload_n 0, 1) := by decide +kernel
theorem dX5_fair_19 : decode cX5_fair 19 = .ok (.iload_n 2, 1) := by decide +kernel
theorem dX5_fair_20 : decode cX5_fair 20 = .ok (.iconst 1, 1) := by decide +kernel
theorem dX5_fair_21 : decode cX5_fair 21 = .ok (.invokevirtual 44, 3) := by decide +kernel
theorem dX5_fair_24 : decode cX5_fair 24 = .ok (.aload_n 0, 1) := by decide +kernel
theorem dX5_fair_25 : decode cX5_fair 25 = .ok (.iload_n 1, 1) := by decide +kernel
theorem dX5_fair_26 : decode cX5_fair 26 = .ok (.iconst 1, 1) := by decide +kernel
theorem dX5_fair_27 : decode cX5_fair 27 = .ok (.invokevirtual 44, 3) := by decide +kernel
theorem dX5_fair_30 : decode cX5_fair 30 = .ok (.if_icmp .le 7, 3) := by decide +kernel
theorem dX5_fair_33 : decode cX5_fair 33 = .ok (.iload_n 2, 1) := by decide +kernel
theorem dX5_fair_34 : decode cX5_fair 34 = .ok (.goto 4, 3) := by decide +kernel
theorem dX5_fair_37 : decode cX5_fair 37 = .ok (.iload_n 1, 1) := by decide +kernel
theorem dX5_fair_38 : decode cX5_fair 38 = .ok (.istore_n 1, 1) := by decide +kernel
theorem dX5_fair_39 : decode cX5_fair 39 = .ok (.iinc 2 1, 3) := by decide +kernel
theorem dX5_fair_42 : decode cX5_fair 42 = .ok (.goto (-38), 3) := by decide +kernel
theorem dX5_fair_45 : decode cX5_fair 45 = .ok (.iconst 0, 1) := by decide +kernel
theorem dX5_fair_46 : decode cX5_fair 46 = .ok (.istore_n 2, 1) := by decide +kernel
theorem dX5_fair_47 : decode cX5_fair 47 = .ok (.iload_n 2, 1) := by decide +kernel
theorem dX5_fair_48 : decode cX5_fair 48 = .ok (.iconst 5, 1) := by decide +kernel
theorem dX5_fair_49 : decode cX5_fair 49 = .ok (.if_icmp .gt 48, 3) := by decide +kernel
theorem dX5_fair_52 : decode cX5_fair 52 = .ok (.iload_n 1, 1) := by decide +kernel
theorem dX5_fair_53 : decode cX5_fair 53 = .ok (.ifCond .lt 44, 3) := by decide +kernel
theorem dX5_fair_56 : decode cX5_fair 56 = .ok (.aload_n 0, 1) := by decide +kernel
theorem dX5_fair_57 : decode cX5_fair 57 = .ok (.invokevirtual 138, 3) := by decide +kernel
theorem dX5_fair_60 : decode cX5_fair 60 = .ok (.aload_n 0, 1) := by decide +kernel
theorem dX5_fair_61 : decode cX5_fair 61 = .ok (.getfield 7, 3) := by decide +kernel
theorem dX5_fair_64 : decode cX5_fair 64 = .ok (.iconst 2, 1) := by decide +kernel
theorem dX5_fair_65 : decode cX5_fair 65 = .ok (.iload_n 2, 1) := by decide +kernel
theorem dX5_fair_66 : decode cX5_fair 66 = .ok (.iastore, 1) := by decide +kernel
theorem dX5_fair_67 : decode cX5_fair 67 = .ok (.aload_n 0, 1) := by decide +kernel
theorem dX5_fair_68 : decode cX5_fair 68 = .ok (.invokevirtual 154, 3) := by decide +kernel
theorem dX5_fair_71 : decode cX5_fair 71 = .ok (.iload_n 1, 1) := by decide +kernel
theorem dX5_fair_72 : decode cX5_fair 72 = .ok (.if_icmp .ne 7, 3) := by decide +kernel
theorem dX5_fair_75 : decode cX5_fair 75 = .ok (.iconst 1, 1) := by decide +kernel
theorem dX5_fair_76 : decode cX5_fair 76 = .ok (.goto 4, 3) := by decide +kernel
theorem dX5_fair_79 : decode cX5_fair 79 = .ok (.iconst 0, 1) := by decide +kernel
theorem dX5_fair_80 : decode cX5_fair 80 = .ok (.istore_n 3, 1) := by decide +kernel
theorem dX5_fair_81 : decode cX5_fair 81 = .ok (.aload_n 0, 1) := by decide +kernel
theorem dX5_fair_82 : decode cX5_fair 82 = .ok (.invokevirtual 145, 3) := by decide +kernel
theorem dX5_fair_85 : decode cX5_fair 85 = .ok (.iload_n 3, 1) := by decide +kernel
theorem dX5_fair_86 : decode cX5_fair 86 = .ok (.ifCond .eq 5, 3) := by decide +kernel
theorem dX5_fair_89 : decode cX5_fair 89 = .ok (.iload_n 2, 1) := by decide +kernel
theorem dX5_fair_90 : decode cX5_fair 90 = .ok (.ireturn, 1) := by decide +kernel
theorem dX5_fair_91 : decode cX5_fair 91 = .ok (.iinc 2 1, 3) := by decide +kernel
theorem dX5_fair_94 : decode cX5_fair 94 = .ok (.goto (-47), 3) := by decide +kernel
theorem dX5_fair_97 : decode cX5_fair 97 = .ok (.aload_n 0, 1) := by decide +kernel
theorem dX5_fair_98 : decode cX5_fair 98 = .ok (.ldc 39, 2) := by decide +kernel
theorem dX5_fair_100 : decode cX5_fair 100 = .ok (.invokevirtual 40, 3) := by decide +kernel
theorem dX5_fair_103 : decode cX5_fair 103 = .ok (.ireturn, 1) := by decide +kernel
set_option maxRecDepth 20000 in
theorem ggX5_odds_X5_isRunner : GoodIn wsX5_odds wsX5_isRunner := goodIn_r _ [9, 3, 92, 93, 94, 95, 96, 97, 98, 99, 100, 101, 102, 103, 104, 105, 106] rfl (by decide +kernel)
set_option maxRecDepth 20000 in
theorem gX5_odds_X5_isRunner : GoodIn wsX5_odds (wsV RX5 86 RX5 yX5_isRunner wsX5_isRunner) := goodIn_app (goodIn_of _ (by decide +kernel)) ggX5_odds_X5_isRunner
set_option maxRecDepth 20000 in
theorem ggX5_odds_X5_isIn : GoodIn wsX5_odds wsX5_isIn := goodIn_r _ [12] rfl (by decide +kernel)
set_option maxRecDepth 20000 in
theorem gX5_odds_X5_isIn : GoodIn wsX5_odds (va_wsS RX5 50 yX5_isIn wsX5_isIn) := goodIn_app (goodIn_of _ (by decide +kernel)) ggX5_odds_X5_isIn
set_option maxRecDepth 20000 in
theorem ggX5_odds_X5_finds : GoodIn wsX5_odds wsX5_finds := goodIn_r _ [16, 17, 2, 92, 93, 94, 95, 96, 97, 98, 99, 100, 101, 102, 103, 104, 105, 106] rfl (by decide +kernel)
set_option maxRecDepth 20000 in
theorem gX5_odds_X5_finds : GoodIn wsX5_odds (wsV RX5 40 RX5 yX5_finds wsX5_finds) := goodIn_app (goodIn_of _ (by decide +kernel)) ggX5_odds_X5_finds
set_option maxRecDepth 20000 in
theorem ggX5_odds_X5_laysBy : GoodIn wsX5_odds wsX5_laysBy := goodIn_r _ [21, 22, 3, 92, 93, 94, 95, 96, 97, 98, 99, 100, 101, 102, 103, 104, 105, 106] rfl (by decide +kernel)
set_option maxRecDepth 20000 in
theorem gX5_odds_X5_laysBy : GoodIn wsX5_odds (wsV RX5 138 RX5 yX5_laysBy wsX5_laysBy) := goodIn_app (goodIn_of _ (by decide +kernel)) ggX5_odds_X5_laysBy
set_option maxRecDepth 20000 in
theorem ggX5_odds_X5_puts : GoodIn wsX5_odds wsX5_puts := goodIn_r _ [26, 3, 92, 93, 94, 95, 96, 97, 98, 99, 100, 101, 102, 103, 104, 105, 106] rfl (by decide +kernel)
set_option maxRecDepth 20000 in
theorem gX5_odds_X5_puts : GoodIn wsX5_odds (wsV RX5 64 RX5 yX5_puts wsX5_puts) := goodIn_app (goodIn_of _ (by decide +kernel)) ggX5_odds_X5_puts
set_option maxRecDepth 20000 in
theorem ggX5_odds_X5_races : GoodIn wsX5_odds wsX5_races := goodIn_r _ [30, 3, 31, 32, 33, 8, 34, 35, 36, 37, 38, 23, 24, 25, 26, 39, 40, 41, 42, 43, 44, 45, 46, 47, 48, 49, 50, 51, 52, 53, 54, 55, 56, 57, 58, 59, 60, 61, 62, 63, 64, 65, 66, 67, 68, 69, 70, 71, 72, 73, 74, 75, 76, 77, 78, 79, 80, 81, 82, 83, 84, 85, 86, 87, 92, 93, 94, 95, 96, 97, 98, 99, 100, 101, 102, 103, 104, 105, 106] rfl (by decide +kernel)
set_option maxRecDepth 20000 in
theorem gX5_odds_X5_races : GoodIn wsX5_odds (wsV RX5 154 RX5 yX5_races wsX5_races) := goodIn_app (goodIn_of _ (by decide +kernel)) ggX5_odds_X5_races
set_option maxRecDepth 20000 in
theorem ggX5_odds_X5_laysBack : GoodIn wsX5_odds wsX5_laysBack := goodIn_r _ [91, 3, 22, 92, 93, 94, 95, 96, 97, 98, 99, 100, 101, 102, 103, 104, 105, 106] rfl (by decide +kernel)
set_option maxRecDepth 20000 in
theorem gX5_odds_X5_laysBack : GoodIn wsX5_odds (wsV RX5 145 RX5 yX5_laysBack wsX5_laysBack) := goodIn_app (goodIn_of _ (by decide +kernel)) ggX5_odds_X5_laysBack
theorem dX5_odds_0 : decode cX5_odds 0 = .ok (.aload_n 0, 1) := by decide +kernel
theorem dX5_odds_1 : decode cX5_odds 1 = .ok (.iload_n 1, 1) := by decide +kernel
theorem dX5_odds_2 : decode cX5_odds 2 = .ok (.invokevirtual 86, 3) := by decide +kernel
theorem dX5_odds_5 : decode cX5_odds 5 = .ok (.ifCond .eq 15, 3) := by decide +kernel
theorem dX5_odds_8 : decode cX5_odds 8 = .ok (.iload_n 2, 1) := by decide +kernel
theorem dX5_odds_9 : decode cX5_odds 9 = .ok (.i2l, 1) := by decide +kernel
theorem dX5_odds_10 : decode cX5_odds 10 = .ok (.lconst 1, 1) := by decide +kernel
theorem dX5_odds_11 : decode cX5_odds 11 = .ok (.ldc2_w 163, 3) := by decide +kernel
theorem dX5_odds_14 : decode cX5_odds 14 = .ok (.invokestatic 50, 3) := by decide +kernel
theorem dX5_odds_17 : decode cX5_odds 17 = .ok (.ifCond .ne 10, 3) := by decide +kernel
theorem dX5_odds_20 : decode cX5_odds 20 = .ok (.aload_n 0, 1) := by decide +kernel
theorem dX5_odds_21 : decode cX5_odds 21 = .ok (.ldc 38, 2) := by decide +kernel
theorem dX5_odds_23 : decode cX5_odds 23 = .ok (.invokevirtual 40, 3) := by decide +kernel
theorem dX5_odds_26 : decode cX5_odds 26 = .ok (.ireturn, 1) := by decide +kernel
theorem dX5_odds_27 : decode cX5_odds 27 = .ok (.iload_n 3, 1) := by decide +kernel
theorem dX5_odds_28 : decode cX5_odds 28 = .ok (.istore 4, 2) := by decide +kernel
theorem dX5_odds_30 : decode cX5_odds 30 = .ok (.iconst 0, 1) := by decide +kernel
theorem dX5_odds_31 : decode cX5_odds 31 = .ok (.istore 5, 2) := by decide +kernel
theorem dX5_odds_33 : decode cX5_odds 33 = .ok (.aload_n 0, 1) := by decide +kernel
theorem dX5_odds_34 : decode cX5_odds 34 = .ok (.invokevirtual 138, 3) := by decide +kernel
theorem dX5_odds_37 : decode cX5_odds 37 = .ok (.iconst 0, 1) := by decide +kernel
theorem dX5_odds_38 : decode cX5_odds 38 = .ok (.istore 6, 2) := by decide +kernel
theorem dX5_odds_40 : decode cX5_odds 40 = .ok (.iload 6, 2) := by decide +kernel
theorem dX5_odds_42 : decode cX5_odds 42 = .ok (.iload_n 2, 1) := by decide +kernel
theorem dX5_odds_43 : decode cX5_odds 43 = .ok (.if_icmp .ge 79, 3) := by decide +kernel
theorem dX5_odds_46 : decode cX5_odds 46 = .ok (.iconst 0, 1) := by decide +kernel
theorem dX5_odds_47 : decode cX5_odds 47 = .ok (.istore 7, 2) := by decide +kernel
theorem dX5_odds_49 : decode cX5_odds 49 = .ok (.iload 7, 2) := by decide +kernel
theorem dX5_odds_51 : decode cX5_odds 51 = .ok (.aload_n 0, 1) := by decide +kernel
theorem dX5_odds_52 : decode cX5_odds 52 = .ok (.getfield 7, 3) := by decide +kernel
theorem dX5_odds_55 : decode cX5_odds 55 = .ok (.iconst 0, 1) := by decide +kernel
theorem dX5_odds_56 : decode cX5_odds 56 = .ok (.iaload, 1) := by decide +kernel
theorem dX5_odds_57 : decode cX5_odds 57 = .ok (.if_icmp .ge 37, 3) := by decide +kernel
theorem dX5_odds_60 : decode cX5_odds 60 = .ok (.iload 4, 2) := by decide +kernel
theorem dX5_odds_62 : decode cX5_odds 62 = .ok (.ldc 165, 2) := by decide +kernel
theorem dX5_odds_64 : decode cX5_odds 64 = .ok (.imul, 1) := by decide +kernel
theorem dX5_odds_65 : decode cX5_odds 65 = .ok (.sipush 12345, 3) := by decide +kernel
theorem dX5_odds_68 : decode cX5_odds 68 = .ok (.iadd, 1) := by decide +kernel
theorem dX5_odds_69 : decode cX5_odds 69 = .ok (.istore 4, 2) := by decide +kernel
theorem dX5_odds_71 : decode cX5_odds 71 = .ok (.aload_n 0, 1) := by decide +kernel
theorem dX5_odds_72 : decode cX5_odds 72 = .ok (.iload 7, 2) := by decide +kernel
theorem dX5_odds_74 : decode cX5_odds 74 = .ok (.iconst 1, 1) := by decide +kernel
theorem dX5_odds_75 : decode cX5_odds 75 = .ok (.iconst 1, 1) := by decide +kernel
theorem dX5_odds_76 : decode cX5_odds 76 = .ok (.iload 4, 2) := by decide +kernel
theorem dX5_odds_78 : decode cX5_odds 78 = .ok (.bipush 8, 2) := by decide +kernel
theorem dX5_odds_80 : decode cX5_odds 80 = .ok (.iushr, 1) := by decide +kernel
theorem dX5_odds_81 : decode cX5_odds 81 = .ok (.bipush 12, 2) := by decide +kernel
theorem dX5_odds_83 : decode cX5_odds 83 = .ok (.irem, 1) := by decide +kernel
theorem dX5_odds_84 : decode cX5_odds 84 = .ok (.iadd, 1) := by decide +kernel
theorem dX5_odds_85 : decode cX5_odds 85 = .ok (.invokevirtual 64, 3) := by decide +kernel
theorem dX5_odds_88 : decode cX5_odds 88 = .ok (.iinc 7 1, 3) := by decide +kernel
theorem dX5_odds_91 : decode cX5_odds 91 = .ok (.goto (-42), 3) := by decide +kernel
theorem dX5_odds_94 : decode cX5_odds 94 = .ok (.iload 5, 2) := by decide +kernel
theorem dX5_odds_96 : decode cX5_odds 96 = .ok (.aload_n 0, 1) := by decide +kernel
theorem dX5_odds_97 : decode cX5_odds 97 = .ok (.invokevirtual 154, 3) := by decide +kernel
theorem dX5_odds_100 : decode cX5_odds 100 = .ok (.iload_n 1, 1) := by decide +kernel
theorem dX5_odds_101 : decode cX5_odds 101 = .ok (.if_icmp .ne 7, 3) := by decide +kernel
theorem dX5_odds_104 : decode cX5_odds 104 = .ok (.iconst 1, 1) := by decide +kernel
theorem dX5_odds_105 : decode cX5_odds 105 = .ok (.goto 4, 3) := by decide +kernel
theorem dX5_odds_108 : decode cX5_odds 108 = .ok (.iconst 0, 1) := by decide +kernel
theorem dX5_odds_109 : decode cX5_odds 109 = .ok (.iadd, 1) := by decide +kernel
theorem dX5_odds_110 : decode cX5_odds 110 = .ok (.istore 5, 2) := by decide +kernel
theorem dX5_odds_112 : decode cX5_odds 112 = .ok (.aload_n 0, 1) := by decide +kernel
theorem dX5_odds_113 : decode cX5_odds 113 = .ok (.invokevirtual 145, 3) := by decide +kernel
theorem dX5_odds_116 : decode cX5_odds 116 = .ok (.iinc 6 1, 3) := by decide +kernel
theorem dX5_odds_119 : decode cX5_odds 119 = .ok (.goto (-79), 3) := by decide +kernel
theorem dX5_odds_122 : decode cX5_odds 122 = .ok (.iload 5, 2) := by decide +kernel
theorem dX5_odds_124 : decode cX5_odds 124 = .ok (.ireturn, 1) := by decide +kernel
set_option maxRecDepth 20000 in
theorem ggX5_unwilling_X5_laysBy : GoodIn wsX5_unwilling wsX5_laysBy := goodIn_r _ [7, 8, 1, 53, 54, 55, 56, 57, 58, 59, 60, 61, 62, 63, 64, 65, 66, 67] rfl (by decide +kernel)
set_option maxRecDepth 20000 in
theorem gX5_unwilling_X5_laysBy : GoodIn wsX5_unwilling (wsV RX5 138 RX5 yX5_laysBy wsX5_laysBy) := goodIn_app (goodIn_of _ (by decide +kernel)) ggX5_unwilling_X5_laysBy
set_option maxRecDepth 20000 in
theorem ggX5_unwilling_X5_lines : GoodIn wsX5_unwilling wsX5_lines := goodIn_r _ [12, 1, 13, 14, 15, 6, 16, 17, 18, 19, 20, 53, 54, 55, 56, 57, 58, 59, 60, 61, 62, 63, 64, 65, 66, 67] rfl (by decide +kernel)
set_option maxRecDepth 20000 in
theorem gX5_unwilling_X5_lines : GoodIn wsX5_unwilling (wsV RX5 119 RX5 yX5_lines wsX5_lines) := goodIn_app (goodIn_of _ (by decide +kernel)) ggX5_unwilling_X5_lines
set_option maxRecDepth 20000 in
theorem ggX5_unwilling_X5_homeMany : GoodIn wsX5_unwilling wsX5_homeMany := goodIn_r _ [24, 1, 25, 26, 27, 6, 28, 13, 14, 15, 16, 53, 54, 55, 56, 57, 58, 59, 60, 61, 62, 63, 64, 65, 66, 67] rfl (by decide +kernel)
set_option maxRecDepth 20000 in
theorem gX5_unwilling_X5_homeMany : GoodIn wsX5_unwilling (wsV RX5 112 RX5 yX5_homeMany wsX5_homeMany) := goodIn_app (goodIn_of _ (by decide +kernel)) ggX5_unwilling_X5_homeMany
set_option maxRecDepth 20000 in
theorem ggX5_unwilling_X5_firstAlone : GoodIn wsX5_unwilling wsX5_firstAlone := goodIn_r _ [32, 1, 25, 26, 27, 6, 28, 13, 14, 15, 16, 53, 54, 55, 56, 57, 58, 59, 60, 61, 62, 63, 64, 65, 66, 67] rfl (by decide +kernel)
set_option maxRecDepth 20000 in
theorem gX5_unwilling_X5_firstAlone : GoodIn wsX5_unwilling (wsV RX5 108 RX5 yX5_firstAlone wsX5_firstAlone) := goodIn_app (goodIn_of _ (by decide +kernel)) ggX5_unwilling_X5_firstAlone
set_option maxRecDepth 20000 in
theorem ggX5_unwilling_X5_is : GoodIn wsX5_unwilling wsX5_is := goodIn_r _ [16, 1, 53, 54, 55, 56, 57, 58, 59, 60, 61, 62, 63, 64, 65, 66, 67] rfl (by decide +kernel)
set_option maxRecDepth 20000 in
theorem gX5_unwilling_X5_is : GoodIn wsX5_unwilling (wsV RX5 44 RX5 yX5_is wsX5_is) := goodIn_app (goodIn_of _ (by decide +kernel)) ggX5_unwilling_X5_is
set_option maxRecDepth 20000 in
theorem ggX5_unwilling_X5_goesOn : GoodIn wsX5_unwilling wsX5_goesOn := goodIn_r _ [36, 1, 2, 21, 22, 23, 6, 24, 25, 26, 27, 28, 13, 14, 15, 16, 29, 30, 31, 32, 37, 38, 39, 40, 41, 42, 43, 44, 45, 46, 47, 48, 17, 18, 19, 20, 53, 54, 55, 56, 57, 58, 59, 60, 61, 62, 63, 64, 65, 66, 67] rfl (by decide +kernel)
set_option maxRecDepth 20000 in
theorem gX5_unwilling_X5_goesOn : GoodIn wsX5_unwilling (wsV RX5 124 RX5 yX5_goesOn wsX5_goesOn) := goodIn_app (goodIn_of _ (by decide +kernel)) ggX5_unwilling_X5_goesOn
set_option maxRecDepth 20000 in
theorem ggX5_unwilling_X5_laysBack : GoodIn wsX5_unwilling wsX5_laysBack := goodIn_r _ [52, 1, 8, 53, 54, 55, 56, 57, 58, 59, 60, 61, 62, 63, 64, 65, 66, 67] rfl (by decide +kernel)
set_option maxRecDepth 20000 in
theorem gX5_unwilling_X5_laysBack : GoodIn wsX5_unwilling (wsV RX5 145 RX5 yX5_laysBack wsX5_laysBack) := goodIn_app (goodIn_of _ (by decide +kernel)) ggX5_unwilling_X5_laysBack
theorem dX5_unwilling_0 : decode cX5_unwilling 0 = .ok (.aload_n 0, 1) := by decide +kernel
theorem dX5_unwilling_1 : decode cX5_unwilling 1 = .ok (.invokevirtual 138, 3) := by decide +kernel
theorem dX5_unwilling_4 : decode cX5_unwilling 4 = .ok (.aload_n 0, 1) := by decide +kernel
theorem dX5_unwilling_5 : decode cX5_unwilling 5 = .ok (.invokevirtual 119, 3) := by decide +kernel
theorem dX5_unwilling_8 : decode cX5_unwilling 8 = .ok (.iconst 0, 1) := by decide +kernel
theorem dX5_unwilling_9 : decode cX5_unwilling 9 = .ok (.istore_n 1, 1) := by decide +kernel
theorem dX5_unwilling_10 : decode cX5_unwilling 10 = .ok (.iconst 0, 1) := by decide +kernel
theorem dX5_unwilling_11 : decode cX5_unwilling 11 = .ok (.istore_n 2, 1) := by decide +kernel
theorem dX5_unwilling_12 : decode cX5_unwilling 12 = .ok (.iload_n 2, 1) := by decide +kernel
theorem dX5_unwilling_13 : decode cX5_unwilling 13 = .ok (.sipush 2000, 3) := by decide +kernel
theorem dX5_unwilling_16 : decode cX5_unwilling 16 = .ok (.if_icmp .ge 91, 3) := by decide +kernel
theorem dX5_unwilling_19 : decode cX5_unwilling 19 = .ok (.aload_n 0, 1) := by decide +kernel
theorem dX5_unwilling_20 : decode cX5_unwilling 20 = .ok (.invokevirtual 112, 3) := by decide +kernel
theorem dX5_unwilling_23 : decode cX5_unwilling 23 = .ok (.aload_n 0, 1) := by decide +kernel
theorem dX5_unwilling_24 : decode cX5_unwilling 24 = .ok (.getfield 7, 3) := by decide +kernel
theorem dX5_unwilling_27 : decode cX5_unwilling 27 = .ok (.iconst 0, 1) := by decide +kernel
theorem dX5_unwilling_28 : decode cX5_unwilling 28 = .ok (.iaload, 1) := by decide +kernel
theorem dX5_unwilling_29 : decode cX5_unwilling 29 = .ok (.if_icmp .ge 78, 3) := by decide +kernel
theorem dX5_unwilling_32 : decode cX5_unwilling 32 = .ok (.aload_n 0, 1) := by decide +kernel
theorem dX5_unwilling_33 : decode cX5_unwilling 33 = .ok (.invokevirtual 108, 3) := by decide +kernel
theorem dX5_unwilling_36 : decode cX5_unwilling 36 = .ok (.istore_n 3, 1) := by decide +kernel
theorem dX5_unwilling_37 : decode cX5_unwilling 37 = .ok (.iload_n 3, 1) := by decide +kernel
theorem dX5_unwilling_38 : decode cX5_unwilling 38 = .ok (.ifCond .lt 24, 3) := by decide +kernel
theorem dX5_unwilling_41 : decode cX5_unwilling 41 = .ok (.aload_n 0, 1) := by decide +kernel
theorem dX5_unwilling_42 : decode cX5_unwilling 42 = .ok (.iload_n 3, 1) := by decide +kernel
theorem dX5_unwilling_43 : decode cX5_unwilling 43 = .ok (.iconst 2, 1) := by decide +kernel
theorem dX5_unwilling_44 : decode cX5_unwilling 44 = .ok (.invokevirtual 44, 3) := by decide +kernel
theorem dX5_unwilling_47 : decode cX5_unwilling 47 = .ok (.aload_n 0, 1) := by decide +kernel
theorem dX5_unwilling_48 : decode cX5_unwilling 48 = .ok (.iload_n 3, 1) := by decide +kernel
theorem dX5_unwilling_49 : decode cX5_unwilling 49 = .ok (.iconst 1, 1) := by decide +kernel
theorem dX5_unwilling_50 : decode cX5_unwilling 50 = .ok (.invokevirtual 44, 3) := by decide +kernel
theorem dX5_unwilling_53 : decode cX5_unwilling 53 = .ok (.iconst 4, 1) := by decide +kernel
theorem dX5_unwilling_54 : decode cX5_unwilling 54 = .ok (.isub, 1) := by decide +kernel
theorem dX5_unwilling_55 : decode cX5_unwilling 55 = .ok (.if_icmp .lt 7, 3) := by decide +kernel
theorem dX5_unwilling_58 : decode cX5_unwilling 58 = .ok (.iconst 1, 1) := by decide +kernel
theorem dX5_unwilling_59 : decode cX5_unwilling 59 = .ok (.goto 4, 3) := by decide +kernel
theorem dX5_unwilling_62 : decode cX5_unwilling 62 = .ok (.iconst 0, 1) := by decide +kernel
theorem dX5_unwilling_63 : decode cX5_unwilling 63 = .ok (.istore 4, 2) := by decide +kernel
theorem dX5_unwilling_65 : decode cX5_unwilling 65 = .ok (.aload_n 0, 1) := by decide +kernel
theorem dX5_unwilling_66 : decode cX5_unwilling 66 = .ok (.invokevirtual 124, 3) := by decide +kernel
theorem dX5_unwilling_69 : decode cX5_unwilling 69 = .ok (.istore 5, 2) := by decide +kernel
theorem dX5_unwilling_71 : decode cX5_unwilling 71 = .ok (.iload_n 1, 1) := by decide +kernel
theorem dX5_unwilling_72 : decode cX5_unwilling 72 = .ok (.iload 4, 2) := by decide +kernel
theorem dX5_unwilling_74 : decode cX5_unwilling 74 = .ok (.ifCond .eq 24, 3) := by decide +kernel
theorem dX5_unwilling_77 : decode cX5_unwilling 77 = .ok (.aload_n 0, 1) := by decide +kernel
theorem dX5_unwilling_78 : decode cX5_unwilling 78 = .ok (.getfield 35, 3) := by decide +kernel
theorem dX5_unwilling_81 : decode cX5_unwilling 81 = .ok (.iload_n 3, 1) := by decide +kernel
theorem dX5_unwilling_82 : decode cX5_unwilling 82 = .ok (.iaload, 1) := by decide +kernel
theorem dX5_unwilling_83 : decode cX5_unwilling 83 = .ok (.aload_n 0, 1) := by decide +kernel
theorem dX5_unwilling_84 : decode cX5_unwilling 84 = .ok (.iload_n 3, 1) := by decide +kernel
theorem dX5_unwilling_85 : decode cX5_unwilling 85 = .ok (.iconst 1, 1) := by decide +kernel
theorem dX5_unwilling_86 : decode cX5_unwilling 86 = .ok (.invokevirtual 44, 3) := by decide +kernel
theorem dX5_unwilling_89 : decode cX5_unwilling 89 = .ok (.if_icmp .ge 9, 3) := by decide +kernel
theorem dX5_unwilling_92 : decode cX5_unwilling 92 = .ok (.iconst 1, 1) := by decide +kernel
theorem dX5_unwilling_93 : decode cX5_unwilling 93 = .ok (.iload_n 3, 1) := by decide +kernel
theorem dX5_unwilling_94 : decode cX5_unwilling 94 = .ok (.ishl, 1) := by decide +kernel
theorem dX5_unwilling_95 : decode cX5_unwilling 95 = .ok (.goto 4, 3) := by decide +kernel
theorem dX5_unwilling_98 : decode cX5_unwilling 98 = .ok (.iconst 0, 1) := by decide +kernel
theorem dX5_unwilling_99 : decode cX5_unwilling 99 = .ok (.ior, 1) := by decide +kernel
theorem dX5_unwilling_100 : decode cX5_unwilling 100 = .ok (.istore_n 1, 1) := by decide +kernel
theorem dX5_unwilling_101 : decode cX5_unwilling 101 = .ok (.iinc 2 1, 3) := by decide +kernel
theorem dX5_unwilling_104 : decode cX5_unwilling 104 = .ok (.goto (-92), 3) := by decide +kernel
theorem dX5_unwilling_107 : decode cX5_unwilling 107 = .ok (.aload_n 0, 1) := by decide +kernel
theorem dX5_unwilling_108 : decode cX5_unwilling 108 = .ok (.invokevirtual 145, 3) := by decide +kernel
theorem dX5_unwilling_111 : decode cX5_unwilling 111 = .ok (.iload_n 1, 1) := by decide +kernel
theorem dX5_unwilling_112 : decode cX5_unwilling 112 = .ok (.ireturn, 1) := by decide +kernel
set_option maxRecDepth 20000 in
theorem ggX5_feed_X5_isIn : GoodIn wsX5_feed wsX5_isIn := goodIn_r _ [9] rfl (by decide +kernel)
set_option maxRecDepth 20000 in
theorem gX5_feed_X5_isIn : GoodIn wsX5_feed (va_wsS RX5 50 yX5_isIn wsX5_isIn) := goodIn_app (goodIn_of _ (by decide +kernel)) ggX5_feed_X5_isIn
set_option maxRecDepth 20000 in
theorem ggX5_feed_X5_finds : GoodIn wsX5_feed wsX5_finds := goodIn_r _ [13, 14, 2, 15, 16, 17, 18, 19, 20, 21, 22, 23, 24, 25, 26, 27, 28, 29] rfl (by decide +kernel)
set_option maxRecDepth 20000 in
theorem gX5_feed_X5_finds : GoodIn wsX5_feed (wsV RX5 40 RX5 yX5_finds wsX5_finds) := goodIn_app (goodIn_of _ (by decide +kernel)) ggX5_feed_X5_finds
theorem dX5_feed_0 : decode cX5_feed 0 = .ok (.iload_n 2, 1) := by decide +kernel
theorem dX5_feed_1 : decode cX5_feed 1 = .ok (.i2l, 1) := by decide +kernel
theorem dX5_feed_2 : decode cX5_feed 2 = .ok (.lconst 1, 1) := by decide +kernel
theorem dX5_feed_3 : decode cX5_feed 3 = .ok (.ldc2_w 166, 3) := by decide +kernel
theorem dX5_feed_6 : decode cX5_feed 6 = .ok (.invokestatic 50, 3) := by decide +kernel
theorem dX5_feed_9 : decode cX5_feed 9 = .ok (.ifCond .ne 10, 3) := by decide +kernel
theorem dX5_feed_12 : decode cX5_feed 12 = .ok (.aload_n 0, 1) := by decide +kernel
theorem dX5_feed_13 : decode cX5_feed 13 = .ok (.ldc 38, 2) := by decide +kernel
theorem dX5_feed_15 : decode cX5_feed 15 = .ok (.invokevirtual 40, 3) := by decide +kernel
theorem dX5_feed_18 : decode cX5_feed 18 = .ok (.ireturn, 1) := by decide +kernel
theorem dX5_feed_19 : decode cX5_feed 19 = .ok (.aload_n 0, 1) := by decide +kernel
theorem dX5_feed_20 : decode cX5_feed 20 = .ok (.getfield 168, 3) := by decide +kernel
theorem dX5_feed_23 : decode cX5_feed 23 = .ok (.iload_n 2, 1) := by decide +kernel
theorem dX5_feed_24 : decode cX5_feed 24 = .ok (.iadd, 1) := by decide +kernel
theorem dX5_feed_25 : decode cX5_feed 25 = .ok (.bipush 120, 2) := by decide +kernel
theorem dX5_feed_27 : decode cX5_feed 27 = .ok (.if_icmp .le 10, 3) := by decide +kernel
theorem dX5_feed_30 : decode cX5_feed 30 = .ok (.aload_n 0, 1) := by decide +kernel
theorem dX5_feed_31 : decode cX5_feed 31 = .ok (.ldc 74, 2) := by decide +kernel
theorem dX5_feed_33 : decode cX5_feed 33 = .ok (.invokevirtual 40, 3) := by decide +kernel
theorem dX5_feed_36 : decode cX5_feed 36 = .ok (.ireturn, 1) := by decide +kernel
theorem dX5_feed_37 : decode cX5_feed 37 = .ok (.iload_n 2, 1) := by decide +kernel
theorem dX5_feed_38 : decode cX5_feed 38 = .ok (.iconst 1, 1) := by decide +kernel
theorem dX5_feed_39 : decode cX5_feed 39 = .ok (.isub, 1) := by decide +kernel
theorem dX5_feed_40 : decode cX5_feed 40 = .ok (.istore_n 3, 1) := by decide +kernel
theorem dX5_feed_41 : decode cX5_feed 41 = .ok (.iload_n 3, 1) := by decide +kernel
theorem dX5_feed_42 : decode cX5_feed 42 = .ok (.ifCond .lt 38, 3) := by decide +kernel
theorem dX5_feed_45 : decode cX5_feed 45 = .ok (.aload_n 0, 1) := by decide +kernel
theorem dX5_feed_46 : decode cX5_feed 46 = .ok (.getfield 22, 3) := by decide +kernel
theorem dX5_feed_49 : decode cX5_feed 49 = .ok (.aload_n 0, 1) := by decide +kernel
theorem dX5_feed_50 : decode cX5_feed 50 = .ok (.getfield 168, 3) := by decide +kernel
theorem dX5_feed_53 : decode cX5_feed 53 = .ok (.iload_n 1, 1) := by decide +kernel
theorem dX5_feed_54 : decode cX5_feed 54 = .ok (.bipush 8, 2) := by decide +kernel
theorem dX5_feed_56 : decode cX5_feed 56 = .ok (.iload_n 3, 1) := by decide +kernel
theorem dX5_feed_57 : decode cX5_feed 57 = .ok (.imul, 1) := by decide +kernel
theorem dX5_feed_58 : decode cX5_feed 58 = .ok (.ishr, 1) := by decide +kernel
theorem dX5_feed_59 : decode cX5_feed 59 = .ok (.sipush 255, 3) := by decide +kernel
theorem dX5_feed_62 : decode cX5_feed 62 = .ok (.iand, 1) := by decide +kernel
theorem dX5_feed_63 : decode cX5_feed 63 = .ok (.iastore, 1) := by decide +kernel
theorem dX5_feed_64 : decode cX5_feed 64 = .ok (.aload_n 0, 1) := by decide +kernel
theorem dX5_feed_65 : decode cX5_feed 65 = .ok (.dup, 1) := by decide +kernel
theorem dX5_feed_66 : decode cX5_feed 66 = .ok (.getfield 168, 3) := by decide +kernel
theorem dX5_feed_69 : decode cX5_feed 69 = .ok (.iconst 1, 1) := by decide +kernel
theorem dX5_feed_70 : decode cX5_feed 70 = .ok (.iadd, 1) := by decide +kernel
theorem dX5_feed_71 : decode cX5_feed 71 = .ok (.putfield 168, 3) := by decide +kernel
theorem dX5_feed_74 : decode cX5_feed 74 = .ok (.iinc 3 (-1), 3) := by decide +kernel
theorem dX5_feed_77 : decode cX5_feed 77 = .ok (.goto (-36), 3) := by decide +kernel
theorem dX5_feed_80 : decode cX5_feed 80 = .ok (.aload_n 0, 1) := by decide +kernel
theorem dX5_feed_81 : decode cX5_feed 81 = .ok (.getfield 168, 3) := by decide +kernel
theorem dX5_feed_84 : decode cX5_feed 84 = .ok (.ireturn, 1) := by decide +kernel
theorem dX5_wipe_0 : decode cX5_wipe 0 = .ok (.aload_n 0, 1) := by decide +kernel
theorem dX5_wipe_1 : decode cX5_wipe 1 = .ok (.getfield 168, 3) := by decide +kernel
theorem dX5_wipe_4 : decode cX5_wipe 4 = .ok (.istore_n 1, 1) := by decide +kernel
theorem dX5_wipe_5 : decode cX5_wipe 5 = .ok (.aload_n 0, 1) := by decide +kernel
theorem dX5_wipe_6 : decode cX5_wipe 6 = .ok (.iconst 0, 1) := by decide +kernel
theorem dX5_wipe_7 : decode cX5_wipe 7 = .ok (.putfield 168, 3) := by decide +kernel
theorem dX5_wipe_10 : decode cX5_wipe 10 = .ok (.iload_n 1, 1) := by decide +kernel
theorem dX5_wipe_11 : decode cX5_wipe 11 = .ok (.ireturn, 1) := by decide +kernel
theorem dX5_isLetter_0 : decode cX5_isLetter 0 = .ok (.iload_n 0, 1) := by decide +kernel
theorem dX5_isLetter_1 : decode cX5_isLetter 1 = .ok (.bipush 97, 2) := by decide +kernel
theorem dX5_isLetter_3 : decode cX5_isLetter 3 = .ok (.if_icmp .lt 13, 3) := by decide +kernel
theorem dX5_isLetter_6 : decode cX5_isLetter 6 = .ok (.iload_n 0, 1) := by decide +kernel
theorem dX5_isLetter_7 : decode cX5_isLetter 7 = .ok (.bipush 122, 2) := by decide +kernel
theorem dX5_isLetter_9 : decode cX5_isLetter 9 = .ok (.if_icmp .gt 7, 3) := by decide +kernel
theorem dX5_isLetter_12 : decode cX5_isLetter 12 = .ok (.iconst 1, 1) := by decide +kernel
theorem dX5_isLetter_13 : decode cX5_isLetter 13 = .ok (.goto 4, 3) := by decide +kernel
theorem dX5_isLetter_16 : decode cX5_isLetter 16 = .ok (.iconst 0, 1) := by decide +kernel
theorem dX5_isLetter_17 : decode cX5_isLetter 17 = .ok (.ireturn, 1) := by decide +kernel
theorem dX5_isDigit_0 : decode cX5_isDigit 0 = .ok (.iload_n 0, 1) := by decide +kernel
theorem dX5_isDigit_1 : decode cX5_isDigit 1 = .ok (.bipush 48, 2) := by decide +kernel
theorem dX5_isDigit_3 : decode cX5_isDigit 3 = .ok (.if_icmp .lt 13, 3) := by decide +kernel
theorem dX5_isDigit_6 : decode cX5_isDigit 6 = .ok (.iload_n 0, 1) := by decide +kernel
theorem dX5_isDigit_7 : decode cX5_isDigit 7 = .ok (.bipush 57, 2) := by decide +kernel
theorem dX5_isDigit_9 : decode cX5_isDigit 9 = .ok (.if_icmp .gt 7, 3) := by decide +kernel
theorem dX5_isDigit_12 : decode cX5_isDigit 12 = .ok (.iconst 1, 1) := by decide +kernel
theorem dX5_isDigit_13 : decode cX5_isDigit 13 = .ok (.goto 4, 3) := by decide +kernel
theorem dX5_isDigit_16 : decode cX5_isDigit 16 = .ok (.iconst 0, 1) := by decide +kernel
theorem dX5_isDigit_17 : decode cX5_isDigit 17 = .ok (.ireturn, 1) := by decide +kernel
theorem dX5_byteAt_0 : decode cX5_byteAt 0 = .ok (.iload_n 1, 1) := by decide +kernel
theorem dX5_byteAt_1 : decode cX5_byteAt 1 = .ok (.aload_n 0, 1) := by decide +kernel
theorem dX5_byteAt_2 : decode cX5_byteAt 2 = .ok (.getfield 168, 3) := by decide +kernel
theorem dX5_byteAt_5 : decode cX5_byteAt 5 = .ok (.if_icmp .ge 12, 3) := by decide +kernel
theorem dX5_byteAt_8 : decode cX5_byteAt 8 = .ok (.aload_n 0, 1) := by decide +kernel
theorem dX5_byteAt_9 : decode cX5_byteAt 9 = .ok (.getfield 22, 3) := by decide +kernel
theorem dX5_byteAt_12 : decode cX5_byteAt 12 = .ok (.iload_n 1, 1) := by decide +kernel
theorem dX5_byteAt_13 : decode cX5_byteAt 13 = .ok (.iaload, 1) := by decide +kernel
theorem dX5_byteAt_14 : decode cX5_byteAt 14 = .ok (.goto 4, 3) := by decide +kernel
theorem dX5_byteAt_17 : decode cX5_byteAt 17 = .ok (.iconst (-1), 1) := by decide +kernel
theorem dX5_byteAt_18 : decode cX5_byteAt 18 = .ok (.ireturn, 1) := by decide +kernel
set_option maxRecDepth 20000 in
theorem ggX5_nextToken_X5_byteAt : GoodIn wsX5_nextToken wsX5_byteAt := goodIn_r _ [9, 10, 11, 18, 19, 20, 21, 22, 23, 24, 25, 26, 27, 28, 29, 30, 31, 32] rfl (by decide +kernel)
set_option maxRecDepth 20000 in
theorem gX5_nextToken_X5_byteAt : GoodIn wsX5_nextToken (wsV RX5 178 RX5 yX5_byteAt wsX5_byteAt) := goodIn_app (goodIn_of _ (by decide +kernel)) ggX5_nextToken_X5_byteAt
set_option maxRecDepth 20000 in
theorem ggX5_nextToken_X5_isLetter : GoodIn wsX5_nextToken wsX5_isLetter := goodIn_r _ [14] rfl (by decide +kernel)
set_option maxRecDepth 20000 in
theorem gX5_nextToken_X5_isLetter : GoodIn wsX5_nextToken (va_wsS RX5 181 yX5_isLetter wsX5_isLetter) := goodIn_app (goodIn_of _ (by decide +kernel)) ggX5_nextToken_X5_isLetter
set_option maxRecDepth 20000 in
theorem ggX5_nextToken_X5_isDigit : GoodIn wsX5_nextToken wsX5_isDigit := goodIn_r _ [17] rfl (by decide +kernel)
set_option maxRecDepth 20000 in
theorem gX5_nextToken_X5_isDigit : GoodIn wsX5_nextToken (va_wsS RX5 184 yX5_isDigit wsX5_isDigit) := goodIn_app (goodIn_of _ (by decide +kernel)) ggX5_nextToken_X5_isDigit
theorem dX5_nextToken_0 : decode cX5_nextToken 0 = .ok (.aload_n 0, 1) := by decide +kernel
theorem dX5_nextToken_1 : decode cX5_nextToken 1 = .ok (.aload_n 0, 1) := by decide +kernel
theorem dX5_nextToken_2 : decode cX5_nextToken 2 = .ok (.getfield 172, 3) := by decide +kernel
theorem dX5_nextToken_5 : decode cX5_nextToken 5 = .ok (.putfield 175, 3) := by decide +kernel
theorem dX5_nextToken_8 : decode cX5_nextToken 8 = .ok (.aload_n 0, 1) := by decide +kernel
theorem dX5_nextToken_9 : decode cX5_nextToken 9 = .ok (.aload_n 0, 1) := by decide +kernel
theorem dX5_nextToken_10 : decode cX5_nextToken 10 = .ok (.getfield 175, 3) := by decide +kernel
theorem dX5_nextToken_13 : decode cX5_nextToken 13 = .ok (.invokevirtual 178, 3) := by decide +kernel
theorem dX5_nextToken_16 : decode cX5_nextToken 16 = .ok (.bipush 32, 2) := by decide +kernel
theorem dX5_nextToken_18 : decode cX5_nextToken 18 = .ok (.if_icmp .ne 16, 3) := by decide +kernel
theorem dX5_nextToken_21 : decode cX5_nextToken 21 = .ok (.aload_n 0, 1) := by decide +kernel
theorem dX5_nextToken_22 : decode cX5_nextToken 22 = .ok (.dup, 1) := by decide +kernel
theorem dX5_nextToken_23 : decode cX5_nextToken 23 = .ok (.getfield 175, 3) := by decide +kernel
theorem dX5_nextToken_26 : decode cX5_nextToken 26 = .ok (.iconst 1, 1) := by decide +kernel
theorem dX5_nextToken_27 : decode cX5_nextToken 27 = .ok (.iadd, 1) := by decide +kernel
theorem dX5_nextToken_28 : decode cX5_nextToken 28 = .ok (.putfield 175, 3) := by decide +kernel
theorem dX5_nextToken_31 : decode cX5_nextToken 31 = .ok (.goto (-23), 3) := by decide +kernel
theorem dX5_nextToken_34 : decode cX5_nextToken 34 = .ok (.aload_n 0, 1) := by decide +kernel
theorem dX5_nextToken_35 : decode cX5_nextToken 35 = .ok (.aload_n 0, 1) := by decide +kernel
theorem dX5_nextToken_36 : decode cX5_nextToken 36 = .ok (.getfield 175, 3) := by decide +kernel
theorem dX5_nextToken_39 : decode cX5_nextToken 39 = .ok (.putfield 172, 3) := by decide +kernel
theorem dX5_nextToken_42 : decode cX5_nextToken 42 = .ok (.aload_n 0, 1) := by decide +kernel
theorem dX5_nextToken_43 : decode cX5_nextToken 43 = .ok (.aload_n 0, 1) := by decide +kernel
theorem dX5_nextToken_44 : decode cX5_nextToken 44 = .ok (.getfield 175, 3) := by decide +kernel
theorem dX5_nextToken_47 : decode cX5_nextToken 47 = .ok (.invokevirtual 178, 3) := by decide +kernel
theorem dX5_nextToken_50 : decode cX5_nextToken 50 = .ok (.istore_n 1, 1) := by decide +kernel
theorem dX5_nextToken_51 : decode cX5_nextToken 51 = .ok (.aload_n 0, 1) := by decide +kernel
theorem dX5_nextToken_52 : decode cX5_nextToken 52 = .ok (.iload_n 1, 1) := by decide +kernel
theorem dX5_nextToken_53 : decode cX5_nextToken 53 = .ok (.ifCond .ge 7, 3) := by decide +kernel
theorem dX5_nextToken_56 : decode cX5_nextToken 56 = .ok (.iconst 0, 1) := by decide +kernel
theorem dX5_nextToken_57 : decode cX5_nextToken 57 = .ok (.goto 36, 3) := by decide +kernel
theorem dX5_nextToken_60 : decode cX5_nextToken 60 = .ok (.iload_n 1, 1) := by decide +kernel
theorem dX5_nextToken_61 : decode cX5_nextToken 61 = .ok (.invokestatic 181, 3) := by decide +kernel
theorem dX5_nextToken_64 : decode cX5_nextToken 64 = .ok (.ifCond .eq 7, 3) := by decide +kernel
theorem dX5_nextToken_67 : decode cX5_nextToken 67 = .ok (.iconst 1, 1) := by decide +kernel
theorem dX5_nextToken_68 : decode cX5_nextToken 68 = .ok (.goto 25, 3) := by decide +kernel
theorem dX5_nextToken_71 : decode cX5_nextToken 71 = .ok (.iload_n 1, 1) := by decide +kernel
theorem dX5_nextToken_72 : decode cX5_nextToken 72 = .ok (.invokestatic 184, 3) := by decide +kernel
theorem dX5_nextToken_75 : decode cX5_nextToken 75 = .ok (.ifCond .eq 7, 3) := by decide +kernel
theorem dX5_nextToken_78 : decode cX5_nextToken 78 = .ok (.iconst 2, 1) := by decide +kernel
theorem dX5_nextToken_79 : decode cX5_nextToken 79 = .ok (.goto 14, 3) := by decide +kernel
theorem dX5_nextToken_82 : decode cX5_nextToken 82 = .ok (.iload_n 1, 1) := by decide +kernel
theorem dX5_nextToken_83 : decode cX5_nextToken 83 = .ok (.bipush 59, 2) := by decide +kernel
theorem dX5_nextToken_85 : decode cX5_nextToken 85 = .ok (.if_icmp .ne 7, 3) := by decide +kernel
theorem dX5_nextToken_88 : decode cX5_nextToken 88 = .ok (.iconst 3, 1) := by decide +kernel
theorem dX5_nextToken_89 : decode cX5_nextToken 89 = .ok (.goto 4, 3) := by decide +kernel
theorem dX5_nextToken_92 : decode cX5_nextToken 92 = .ok (.iconst 4, 1) := by decide +kernel
theorem dX5_nextToken_93 : decode cX5_nextToken 93 = .ok (.putfield 187, 3) := by decide +kernel
theorem dX5_nextToken_96 : decode cX5_nextToken 96 = .ok (.aload_n 0, 1) := by decide +kernel
theorem dX5_nextToken_97 : decode cX5_nextToken 97 = .ok (.iconst 0, 1) := by decide +kernel
theorem dX5_nextToken_98 : decode cX5_nextToken 98 = .ok (.putfield 190, 3) := by decide +kernel
theorem dX5_nextToken_101 : decode cX5_nextToken 101 = .ok (.aload_n 0, 1) := by decide +kernel
theorem dX5_nextToken_102 : decode cX5_nextToken 102 = .ok (.getfield 187, 3) := by decide +kernel
theorem dX5_nextToken_105 : decode cX5_nextToken 105 = .ok (.iconst 1, 1) := by decide +kernel
theorem dX5_nextToken_106 : decode cX5_nextToken 106 = .ok (.if_icmp .ne 30, 3) := by decide +kernel
theorem dX5_nextToken_109 : decode cX5_nextToken 109 = .ok (.aload_n 0, 1) := by decide +kernel
theorem dX5_nextToken_110 : decode cX5_nextToken 110 = .ok (.aload_n 0, 1) := by decide +kernel
theorem dX5_nextToken_111 : decode cX5_nextToken 111 = .ok (.getfield 172, 3) := by decide +kernel
theorem dX5_nextToken_114 : decode cX5_nextToken 114 = .ok (.invokevirtual 178, 3) := by decide +kernel
theorem dX5_nextToken_117 : decode cX5_nextToken 117 = .ok (.invokestatic 181, 3) := by decide +kernel
theorem dX5_nextToken_120 : decode cX5_nextToken 120 = .ok (.ifCond .eq 16, 3) := by decide +kernel
theorem dX5_nextToken_123 : decode cX5_nextToken 123 = .ok (.aload_n 0, 1) := by decide +kernel
theorem dX5_nextToken_124 : decode cX5_nextToken 124 = .ok (.dup, 1) := by decide +kernel
theorem dX5_nextToken_125 : decode cX5_nextToken 125 = .ok (.getfield 172, 3) := by decide +kernel
theorem dX5_nextToken_128 : decode cX5_nextToken 128 = .ok (.iconst 1, 1) := by decide +kernel
theorem dX5_nextToken_129 : decode cX5_nextToken 129 = .ok (.iadd, 1) := by decide +kernel
theorem dX5_nextToken_130 : decode cX5_nextToken 130 = .ok (.putfield 172, 3) := by decide +kernel
theorem dX5_nextToken_133 : decode cX5_nextToken 133 = .ok (.goto (-32), 3) := by decide +kernel
theorem dX5_nextToken_136 : decode cX5_nextToken 136 = .ok (.aload_n 0, 1) := by decide +kernel
theorem dX5_nextToken_137 : decode cX5_nextToken 137 = .ok (.getfield 187, 3) := by decide +kernel
theorem dX5_nextToken_140 : decode cX5_nextToken 140 = .ok (.iconst 2, 1) := by decide +kernel
theorem dX5_nextToken_141 : decode cX5_nextToken 141 = .ok (.if_icmp .ne 70, 3) := by decide +kernel
theorem dX5_nextToken_144 : decode cX5_nextToken 144 = .ok (.aload_n 0, 1) := by decide +kernel
theorem dX5_nextToken_145 : decode cX5_nextToken 145 = .ok (.aload_n 0, 1) := by decide +kernel
theorem dX5_nextToken_146 : decode cX5_nextToken 146 = .ok (.getfield 172, 3) := by decide +kernel
theorem dX5_nextToken_149 : decode cX5_nextToken 149 = .ok (.invokevirtual 178, 3) := by decide +kernel
theorem dX5_nextToken_152 : decode cX5_nextToken 152 = .ok (.invokestatic 184, 3) := by decide +kernel
theorem dX5_nextToken_155 : decode cX5_nextToken 155 = .ok (.ifCond .eq 56, 3) := by decide +kernel
theorem dX5_nextToken_158 : decode cX5_nextToken 158 = .ok (.aload_n 0, 1) := by decide +kernel
theorem dX5_nextToken_159 : decode cX5_nextToken 159 = .ok (.aload_n 0, 1) := by decide +kernel
theorem dX5_nextToken_160 : decode cX5_nextToken 160 = .ok (.getfield 190, 3) := by decide +kernel
theorem dX5_nextToken_163 : decode cX5_nextToken 163 = .ok (.sipush 9999, 3) := by decide +kernel
theorem dX5_nextToken_166 : decode cX5_nextToken 166 = .ok (.if_icmp .le 10, 3) := by decide +kernel
theorem dX5_nextToken_169 : decode cX5_nextToken 169 = .ok (.aload_n 0, 1) := by decide +kernel
theorem dX5_nextToken_170 : decode cX5_nextToken 170 = .ok (.getfield 190, 3) := by decide +kernel
theorem dX5_nextToken_173 : decode cX5_nextToken 173 = .ok (.goto 22, 3) := by decide +kernel
theorem dX5_nextToken_176 : decode cX5_nextToken 176 = .ok (.bipush 10, 2) := by decide +kernel
theorem dX5_nextToken_178 : decode cX5_nextToken 178 = .ok (.aload_n 0, 1) := by decide +kernel
theorem dX5_nextToken_179 : decode cX5_nextToken 179 = .ok (.getfield 190, 3) := by decide +kernel
theorem dX5_nextToken_182 : decode cX5_nextToken 182 = .ok (.imul, 1) := by decide +kernel
theorem dX5_nextToken_183 : decode cX5_nextToken 183 = .ok (.aload_n 0, 1) := by decide +kernel
theorem dX5_nextToken_184 : decode cX5_nextToken 184 = .ok (.aload_n 0, 1) := by decide +kernel
theorem dX5_nextToken_185 : decode cX5_nextToken 185 = .ok (.getfield 172, 3) := by decide +kernel
theorem dX5_nextToken_188 : decode cX5_nextToken 188 = .ok (.invokevirtual 178, 3) := by decide +kernel
theorem dX5_nextToken_191 : decode cX5_nextToken 191 = .ok (.iadd, 1) := by decide +kernel
theorem dX5_nextToken_192 : decode cX5_nextToken 192 = .ok (.bipush 48, 2) := by decide +kernel
theorem dX5_nextToken_194 : decode cX5_nextToken 194 = .ok (.isub, 1) := by decide +kernel
theorem dX5_nextToken_195 : decode cX5_nextToken 195 = .ok (.putfield 190, 3) := by decide +kernel
theorem dX5_nextToken_198 : decode cX5_nextToken 198 = .ok (.aload_n 0, 1) := by decide +kernel
theorem dX5_nextToken_199 : decode cX5_nextToken 199 = .ok (.dup, 1) := by decide +kernel
theorem dX5_nextToken_200 : decode cX5_nextToken 200 = .ok (.getfield 172, 3) := by decide +kernel
theorem dX5_nextToken_203 : decode cX5_nextToken 203 = .ok (.iconst 1, 1) := by decide +kernel
theorem dX5_nextToken_204 : decode cX5_nextToken 204 = .ok (.iadd, 1) := by decide +kernel
theorem dX5_nextToken_205 : decode cX5_nextToken 205 = .ok (.putfield 172, 3) := by decide +kernel
theorem dX5_nextToken_208 : decode cX5_nextToken 208 = .ok (.goto (-72), 3) := by decide +kernel
theorem dX5_nextToken_211 : decode cX5_nextToken 211 = .ok (.aload_n 0, 1) := by decide +kernel
theorem dX5_nextToken_212 : decode cX5_nextToken 212 = .ok (.dup, 1) := by decide +kernel
theorem dX5_nextToken_213 : decode cX5_nextToken 213 = .ok (.getfield 172, 3) := by decide +kernel
theorem dX5_nextToken_216 : decode cX5_nextToken 216 = .ok (.aload_n 0, 1) := by decide +kernel
theorem dX5_nextToken_217 : decode cX5_nextToken 217 = .ok (.getfield 187, 3) := by decide +kernel
theorem dX5_nextToken_220 : decode cX5_nextToken 220 = .ok (.iconst 2, 1) := by decide +kernel
theorem dX5_nextToken_221 : decode cX5_nextToken 221 = .ok (.if_icmp .le 7, 3) := by decide +kernel
theorem dX5_nextToken_224 : decode cX5_nextToken 224 = .ok (.iconst 1, 1) := by decide +kernel
theorem dX5_nextToken_225 : decode cX5_nextToken 225 = .ok (.goto 4, 3) := by decide +kernel
theorem dX5_nextToken_228 : decode cX5_nextToken 228 = .ok (.iconst 0, 1) := by decide +kernel
theorem dX5_nextToken_229 : decode cX5_nextToken 229 = .ok (.iadd, 1) := by decide +kernel
theorem dX5_nextToken_230 : decode cX5_nextToken 230 = .ok (.putfield 172, 3) := by decide +kernel
theorem dX5_nextToken_233 : decode cX5_nextToken 233 = .ok (.return_, 1) := by decide +kernel
set_option maxRecDepth 20000 in
theorem ggX5_has3_X5_byteAt : GoodIn wsX5_has3 wsX5_byteAt := goodIn_r _ [6, 7, 8, 9, 10, 11, 12, 13, 14, 15, 16, 17, 18, 19, 20, 21, 22, 23] rfl (by decide +kernel)
set_option maxRecDepth 20000 in
theorem gX5_has3_X5_byteAt : GoodIn wsX5_has3 (wsV RX5 178 RX5 yX5_byteAt wsX5_byteAt) := goodIn_app (goodIn_of _ (by decide +kernel)) ggX5_has3_X5_byteAt
theorem dX5_has3_0 : decode cX5_has3 0 = .ok (.aload_n 0, 1) := by decide +kernel
theorem dX5_has3_1 : decode cX5_has3 1 = .ok (.aload_n 0, 1) := by decide +kernel
theorem dX5_has3_2 : decode cX5_has3 2 = .ok (.getfield 175, 3) := by decide +kernel
theorem dX5_has3_5 : decode cX5_has3 5 = .ok (.iload_n 1, 1) := by decide +kernel
theorem dX5_has3_6 : decode cX5_has3 6 = .ok (.iadd, 1) := by decide +kernel
theorem dX5_has3_7 : decode cX5_has3 7 = .ok (.invokevirtual 178, 3) := by decide +kernel
theorem dX5_has3_10 : decode cX5_has3 10 = .ok (.iload_n 2, 1) := by decide +kernel
theorem dX5_has3_11 : decode cX5_has3 11 = .ok (.if_icmp .ne 40, 3) := by decide +kernel
theorem dX5_has3_14 : decode cX5_has3 14 = .ok (.aload_n 0, 1) := by decide +kernel
theorem dX5_has3_15 : decode cX5_has3 15 = .ok (.aload_n 0, 1) := by decide +kernel
theorem dX5_has3_16 : decode cX5_has3 16 = .ok (.getfield 175, 3) := by decide +kernel
theorem dX5_has3_19 : decode cX5_has3 19 = .ok (.iload_n 1, 1) := by decide +kernel
theorem dX5_has3_20 : decode cX5_has3 20 = .ok (.iadd, 1) := by decide +kernel
theorem dX5_has3_21 : decode cX5_has3 21 = .ok (.iconst 1, 1) := by decide +kernel
theorem dX5_has3_22 : decode cX5_has3 22 = .ok (.iadd, 1) := by decide +kernel
theorem dX5_has3_23 : decode cX5_has3 23 = .ok (.invokevirtual 178, 3) := by decide +kernel
theorem dX5_has3_26 : decode cX5_has3 26 = .ok (.iload_n 3, 1) := by decide +kernel
theorem dX5_has3_27 : decode cX5_has3 27 = .ok (.if_icmp .ne 24, 3) := by decide +kernel
theorem dX5_has3_30 : decode cX5_has3 30 = .ok (.aload_n 0, 1) := by decide +kernel
theorem dX5_has3_31 : decode cX5_has3 31 = .ok (.aload_n 0, 1) := by decide +kernel
theorem dX5_has3_32 : decode cX5_has3 32 = .ok (.getfield 175, 3) := by decide +kernel
theorem dX5_has3_35 : decode cX5_has3 35 = .ok (.iload_n 1, 1) := by decide +kernel
theorem dX5_has3_36 : decode cX5_has3 36 = .ok (.iadd, 1) := by decide +kernel
theorem dX5_has3_37 : decode cX5_has3 37 = .ok (.iconst 2, 1) := by decide +kernel
theorem dX5_has3_38 : decode cX5_has3 38 = .ok (.iadd, 1) := by decide +kernel
theorem dX5_has3_39 : decode cX5_has3 39 = .ok (.invokevirtual 178, 3) := by decide +kernel
theorem dX5_has3_42 : decode cX5_has3 42 = .ok (.iload 4, 2) := by decide +kernel
theorem dX5_has3_44 : decode cX5_has3 44 = .ok (.if_icmp .ne 7, 3) := by decide +kernel
theorem dX5_has3_47 : decode cX5_has3 47 = .ok (.iconst 1, 1) := by decide +kernel
theorem dX5_has3_48 : decode cX5_has3 48 = .ok (.goto 4, 3) := by decide +kernel
theorem dX5_has3_51 : decode cX5_has3 51 = .ok (.iconst 0, 1) := by decide +kernel
theorem dX5_has3_52 : decode cX5_has3 52 = .ok (.ireturn, 1) := by decide +kernel
theorem dX5_isWord_0 : decode cX5_isWord 0 = .ok (.aload_n 0, 1) := by decide +kernel
theorem dX5_isWord_1 : decode cX5_isWord 1 = .ok (.getfield 187, 3) := by decide +kernel
theorem dX5_isWord_4 : decode cX5_isWord 4 = .ok (.iconst 1, 1) := by decide +kernel
theorem dX5_isWord_5 : decode cX5_isWord 5 = .ok (.if_icmp .ne 20, 3) := by decide +kernel
theorem dX5_isWord_8 : decode cX5_isWord 8 = .ok (.aload_n 0, 1) := by decide +kernel
theorem dX5_isWord_9 : decode cX5_isWord 9 = .ok (.getfield 172, 3) := by decide +kernel
theorem dX5_isWord_12 : decode cX5_isWord 12 = .ok (.aload_n 0, 1) := by decide +kernel
theorem dX5_isWord_13 : decode cX5_isWord 13 = .ok (.getfield 175, 3) := by decide +kernel
theorem dX5_isWord_16 : decode cX5_isWord 16 = .ok (.isub, 1) := by decide +kernel
theorem dX5_isWord_17 : decode cX5_isWord 17 = .ok (.iload_n 1, 1) := by decide +kernel
theorem dX5_isWord_18 : decode cX5_isWord 18 = .ok (.if_icmp .ne 7, 3) := by decide +kernel
theorem dX5_isWord_21 : decode cX5_isWord 21 = .ok (.iconst 1, 1) := by decide +kernel
theorem dX5_isWord_22 : decode cX5_isWord 22 = .ok (.goto 4, 3) := by decide +kernel
theorem dX5_isWord_25 : decode cX5_isWord 25 = .ok (.iconst 0, 1) := by decide +kernel
theorem dX5_isWord_26 : decode cX5_isWord 26 = .ok (.ireturn, 1) := by decide +kernel
set_option maxRecDepth 20000 in
theorem ggX5_kindNamed_X5_isWord : GoodIn wsX5_kindNamed wsX5_isWord := goodIn_r _ [5, 6, 7, 8, 19, 20, 21, 22, 23, 24, 25, 26, 27, 28, 29, 30, 31, 32, 33] rfl (by decide +kernel)
set_option maxRecDepth 20000 in
theorem gX5_kindNamed_X5_isWord : GoodIn wsX5_kindNamed (wsV RX5 193 RX5 yX5_isWord wsX5_isWord) := goodIn_app (goodIn_of _ (by decide +kernel)) ggX5_kindNamed_X5_isWord
set_option maxRecDepth 20000 in
theorem ggX5_kindNamed_X5_has3 : GoodIn wsX5_kindNamed wsX5_has3 := goodIn_r _ [12, 8, 13, 14, 15, 4, 16, 17, 18, 19, 20, 21, 22, 23, 24, 25, 26, 27, 28, 29, 30, 31, 32, 33] rfl (by decide +kernel)
set_option maxRecDepth 20000 in
theorem gX5_kindNamed_X5_has3 : GoodIn wsX5_kindNamed (wsV RX5 196 RX5 yX5_has3 wsX5_has3) := goodIn_app (goodIn_of _ (by decide +kernel)) ggX5_kindNamed_X5_has3
theorem dX5_kindNamed_0 : decode cX5_kindNamed 0 = .ok (.aload_n 0, 1) := by decide +kernel
theorem dX5_kindNamed_1 : decode cX5_kindNamed 1 = .ok (.bipush 6, 2) := by decide +kernel
theorem dX5_kindNamed_3 : decode cX5_kindNamed 3 = .ok (.invokevirtual 193, 3) := by decide +kernel
theorem dX5_kindNamed_6 : decode cX5_kindNamed 6 = .ok (.ifCond .eq 33, 3) := by decide +kernel
theorem dX5_kindNamed_9 : decode cX5_kindNamed 9 = .ok (.aload_n 0, 1) := by decide +kernel
theorem dX5_kindNamed_10 : decode cX5_kindNamed 10 = .ok (.iconst 0, 1) := by decide +kernel
theorem dX5_kindNamed_11 : decode cX5_kindNamed 11 = .ok (.bipush 114, 2) := by decide +kernel
theorem dX5_kindNamed_13 : decode cX5_kindNamed 13 = .ok (.bipush 117, 2) := by decide +kernel
theorem dX5_kindNamed_15 : decode cX5_kindNamed 15 = .ok (.bipush 110, 2) := by decide +kernel
theorem dX5_kindNamed_17 : decode cX5_kindNamed 17 = .ok (.invokevirtual 196, 3) := by decide +kernel
theorem dX5_kindNamed_20 : decode cX5_kindNamed 20 = .ok (.ifCond .eq 19, 3) := by decide +kernel
theorem dX5_kindNamed_23 : decode cX5_kindNamed 23 = .ok (.aload_n 0, 1) := by decide +kernel
theorem dX5_kindNamed_24 : decode cX5_kindNamed 24 = .ok (.iconst 3, 1) := by decide +kernel
theorem dX5_kindNamed_25 : decode cX5_kindNamed 25 = .ok (.bipush 110, 2) := by decide +kernel
theorem dX5_kindNamed_27 : decode cX5_kindNamed 27 = .ok (.bipush 101, 2) := by decide +kernel
theorem dX5_kindNamed_29 : decode cX5_kindNamed 29 = .ok (.bipush 114, 2) := by decide +kernel
theorem dX5_kindNamed_31 : decode cX5_kindNamed 31 = .ok (.invokevirtual 196, 3) := by decide +kernel
theorem dX5_kindNamed_34 : decode cX5_kindNamed 34 = .ok (.ifCond .eq 5, 3) := by decide +kernel
theorem dX5_kindNamed_37 : decode cX5_kindNamed 37 = .ok (.iconst 0, 1) := by decide +kernel
theorem dX5_kindNamed_38 : decode cX5_kindNamed 38 = .ok (.ireturn, 1) := by decide +kernel
theorem dX5_kindNamed_39 : decode cX5_kindNamed 39 = .ok (.aload_n 0, 1) := by decide +kernel
theorem dX5_kindNamed_40 : decode cX5_kindNamed 40 = .ok (.bipush 6, 2) := by decide +kernel
theorem dX5_kindNamed_42 : decode cX5_kindNamed 42 = .ok (.invokevirtual 193, 3) := by decide +kernel
theorem dX5_kindNamed_45 : decode cX5_kindNamed 45 = .ok (.ifCond .eq 33, 3) := by decide +kernel
theorem dX5_kindNamed_48 : decode cX5_kindNamed 48 = .ok (.aload_n 0, 1) := by decide +kernel
theorem dX5_kindNamed_49 : decode cX5_kindNamed 49 = .ok (.iconst 0, 1) := by decide +kernel
theorem dX5_kindNamed_50 : decode cX5_kindNamed 50 = .ok (.bipush 104, 2) := by decide +kernel
theorem dX5_kindNamed_52 : decode cX5_kindNamed 52 = .ok (.bipush 111, 2) := by decide +kernel
theorem dX5_kindNamed_54 : decode cX5_kindNamed 54 = .ok (.bipush 108, 2) := by decide +kernel
theorem dX5_kindNamed_56 : decode cX5_kindNamed 56 = .ok (.invokevirtual 196, 3) := by decide +kernel
theorem dX5_kindNamed_59 : decode cX5_kindNamed 59 = .ok (.ifCond .eq 19, 3) := by decide +kernel
theorem dX5_kindNamed_62 : decode cX5_kindNamed 62 = .ok (.aload_n 0, 1) := by decide +kernel
theorem dX5_kindNamed_63 : decode cX5_kindNamed 63 = .ok (.iconst 3, 1) := by decide +kernel
theorem dX5_kindNamed_64 : decode cX5_kindNamed 64 = .ok (.bipush 100, 2) := by decide +kernel
theorem dX5_kindNamed_66 : decode cX5_kindNamed 66 = .ok (.bipush 101, 2) := by decide +kernel
theorem dX5_kindNamed_68 : decode cX5_kindNamed 68 = .ok (.bipush 114, 2) := by decide +kernel
theorem dX5_kindNamed_70 : decode cX5_kindNamed 70 = .ok (.invokevirtual 196, 3) := by decide +kernel
theorem dX5_kindNamed_73 : decode cX5_kindNamed 73 = .ok (.ifCond .eq 5, 3) := by decide +kernel
theorem dX5_kindNamed_76 : decode cX5_kindNamed 76 = .ok (.iconst 1, 1) := by decide +kernel
theorem dX5_kindNamed_77 : decode cX5_kindNamed 77 = .ok (.ireturn, 1) := by decide +kernel
theorem dX5_kindNamed_78 : decode cX5_kindNamed 78 = .ok (.aload_n 0, 1) := by decide +kernel
theorem dX5_kindNamed_79 : decode cX5_kindNamed 79 = .ok (.bipush 6, 2) := by decide +kernel
theorem dX5_kindNamed_81 : decode cX5_kindNamed 81 = .ok (.invokevirtual 193, 3) := by decide +kernel
theorem dX5_kindNamed_84 : decode cX5_kindNamed 84 = .ok (.ifCond .eq 33, 3) := by decide +kernel
theorem dX5_kindNamed_87 : decode cX5_kindNamed 87 = .ok (.aload_n 0, 1) := by decide +kernel
theorem dX5_kindNamed_88 : decode cX5_kindNamed 88 = .ok (.iconst 0, 1) := by decide +kernel
theorem dX5_kindNamed_89 : decode cX5_kindNamed 89 = .ok (.bipush 107, 2) := by decide +kernel
theorem dX5_kindNamed_91 : decode cX5_kindNamed 91 = .ok (.bipush 101, 2) := by decide +kernel
theorem dX5_kindNamed_93 : decode cX5_kindNamed 93 = .ok (.bipush 101, 2) := by decide +kernel
theorem dX5_kindNamed_95 : decode cX5_kindNamed 95 = .ok (.invokevirtual 196, 3) := by decide +kernel
theorem dX5_kindNamed_98 : decode cX5_kindNamed 98 = .ok (.ifCond .eq 19, 3) := by decide +kernel
theorem dX5_kindNamed_101 : decode cX5_kindNamed 101 = .ok (.aload_n 0, 1) := by decide +kernel
theorem dX5_kindNamed_102 : decode cX5_kindNamed 102 = .ok (.iconst 3, 1) := by decide +kernel
theorem dX5_kindNamed_103 : decode cX5_kindNamed 103 = .ok (.bipush 112, 2) := by decide +kernel
theorem dX5_kindNamed_105 : decode cX5_kindNamed 105 = .ok (.bipush 101, 2) := by decide +kernel
theorem dX5_kindNamed_107 : decode cX5_kindNamed 107 = .ok (.bipush 114, 2) := by decide +kernel
theorem dX5_kindNamed_109 : decode cX5_kindNamed 109 = .ok (.invokevirtual 196, 3) := by decide +kernel
theorem dX5_kindNamed_112 : decode cX5_kindNamed 112 = .ok (.ifCond .eq 5, 3) := by decide +kernel
theorem dX5_kindNamed_115 : decode cX5_kindNamed 115 = .ok (.iconst 2, 1) := by decide +kernel
theorem dX5_kindNamed_116 : decode cX5_kindNamed 116 = .ok (.ireturn, 1) := by decide +kernel
theorem dX5_kindNamed_117 : decode cX5_kindNamed 117 = .ok (.aload_n 0, 1) := by decide +kernel
theorem dX5_kindNamed_118 : decode cX5_kindNamed 118 = .ok (.bipush 6, 2) := by decide +kernel
theorem dX5_kindNamed_120 : decode cX5_kindNamed 120 = .ok (.invokevirtual 193, 3) := by decide +kernel
theorem dX5_kindNamed_123 : decode cX5_kindNamed 123 = .ok (.ifCond .eq 33, 3) := by decide +kernel
theorem dX5_kindNamed_126 : decode cX5_kindNamed 126 = .ok (.aload_n 0, 1) := by decide +kernel
theorem dX5_kindNamed_127 : decode cX5_kindNamed 127 = .ok (.iconst 0, 1) := by decide +kernel
theorem dX5_kindNamed_128 : decode cX5_kindNamed 128 = .ok (.bipush 104, 2) := by decide +kernel
theorem dX5_kindNamed_130 : decode cX5_kindNamed 130 = .ok (.bipush 101, 2) := by decide +kernel
theorem dX5_kindNamed_132 : decode cX5_kindNamed 132 = .ok (.bipush 108, 2) := by decide +kernel
theorem dX5_kindNamed_134 : decode cX5_kindNamed 134 = .ok (.invokevirtual 196, 3) := by decide +kernel
theorem dX5_kindNamed_137 : decode cX5_kindNamed 137 = .ok (.ifCond .eq 19, 3) := by decide +kernel
theorem dX5_kindNamed_140 : decode cX5_kindNamed 140 = .ok (.aload_n 0, 1) := by decide +kernel
theorem dX5_kindNamed_141 : decode cX5_kindNamed 141 = .ok (.iconst 3, 1) := by decide +kernel
theorem dX5_kindNamed_142 : decode cX5_kindNamed 142 = .ok (.bipush 112, 2) := by decide +kernel
theorem dX5_kindNamed_144 : decode cX5_kindNamed 144 = .ok (.bipush 101, 2) := by decide +kernel
theorem dX5_kindNamed_146 : decode cX5_kindNamed 146 = .ok (.bipush 114, 2) := by decide +kernel
theorem dX5_kindNamed_148 : decode cX5_kindNamed 148 = .ok (.invokevirtual 196, 3) := by decide +kernel
theorem dX5_kindNamed_151 : decode cX5_kindNamed 151 = .ok (.ifCond .eq 5, 3) := by decide +kernel
theorem dX5_kindNamed_154 : decode cX5_kindNamed 154 = .ok (.iconst 3, 1) := by decide +kernel
theorem dX5_kindNamed_155 : decode cX5_kindNamed 155 = .ok (.ireturn, 1) := by decide +kernel
theorem dX5_kindNamed_156 : decode cX5_kindNamed 156 = .ok (.aload_n 0, 1) := by decide +kernel
theorem dX5_kindNamed_157 : decode cX5_kindNamed 157 = .ok (.bipush 8, 2) := by decide +kernel
theorem dX5_kindNamed_159 : decode cX5_kindNamed 159 = .ok (.invokevirtual 193, 3) := by decide +kernel
theorem dX5_kindNamed_162 : decode cX5_kindNamed 162 = .ok (.ifCond .eq 47, 3) := by decide +kernel
theorem dX5_kindNamed_165 : decode cX5_kindNamed 165 = .ok (.aload_n 0, 1) := by decide +kernel
theorem dX5_kindNamed_166 : decode cX5_kindNamed 166 = .ok (.iconst 0, 1) := by decide +kernel
theorem dX5_kindNamed_167 : decode cX5_kindNamed 167 = .ok (.bipush 115, 2) := by decide +kernel
theorem dX5_kindNamed_169 : decode cX5_kindNamed 169 = .ok (.bipush 112, 2) := by decide +kernel
theorem dX5_kindNamed_171 : decode cX5_kindNamed 171 = .ok (.bipush 114, 2) := by decide +kernel
theorem dX5_kindNamed_173 : decode cX5_kindNamed 173 = .ok (.invokevirtual 196, 3) := by decide +kernel
theorem dX5_kindNamed_176 : decode cX5_kindNamed 176 = .ok (.ifCond .eq 33, 3) := by decide +kernel
theorem dX5_kindNamed_179 : decode cX5_kindNamed 179 = .ok (.aload_n 0, 1) := by decide +kernel
theorem dX5_kindNamed_180 : decode cX5_kindNamed 180 = .ok (.iconst 3, 1) := by decide +kernel
theorem dX5_kindNamed_181 : decode cX5_kindNamed 181 = .ok (.bipush 105, 2) := by decide +kernel
theorem dX5_kindNamed_183 : decode cX5_kindNamed 183 = .ok (.bipush 110, 2) := by decide +kernel
theorem dX5_kindNamed_185 : decode cX5_kindNamed 185 = .ok (.bipush 116, 2) := by decide +kernel
theorem dX5_kindNamed_187 : decode cX5_kindNamed 187 = .ok (.invokevirtual 196, 3) := by decide +kernel
theorem dX5_kindNamed_190 : decode cX5_kindNamed 190 = .ok (.ifCond .eq 19, 3) := by decide +kernel
theorem dX5_kindNamed_193 : decode cX5_kindNamed 193 = .ok (.aload_n 0, 1) := by decide +kernel
theorem dX5_kindNamed_194 : decode cX5_kindNamed 194 = .ok (.iconst 5, 1) := by decide +kernel
theorem dX5_kindNamed_195 : decode cX5_kindNamed 195 = .ok (.bipush 116, 2) := by decide +kernel
theorem dX5_kindNamed_197 : decode cX5_kindNamed 197 = .ok (.bipush 101, 2) := by decide +kernel
theorem dX5_kindNamed_199 : decode cX5_kindNamed 199 = .ok (.bipush 114, 2) := by decide +kernel
theorem dX5_kindNamed_201 : decode cX5_kindNamed 201 = .ok (.invokevirtual 196, 3) := by decide +kernel
theorem dX5_kindNamed_204 : decode cX5_kindNamed 204 = .ok (.ifCond .eq 5, 3) := by decide +kernel
theorem dX5_kindNamed_207 : decode cX5_kindNamed 207 = .ok (.iconst 4, 1) := by decide +kernel
theorem dX5_kindNamed_208 : decode cX5_kindNamed 208 = .ok (.ireturn, 1) := by decide +kernel
theorem dX5_kindNamed_209 : decode cX5_kindNamed 209 = .ok (.aload_n 0, 1) := by decide +kernel
theorem dX5_kindNamed_210 : decode cX5_kindNamed 210 = .ok (.iconst 5, 1) := by decide +kernel
theorem dX5_kindNamed_211 : decode cX5_kindNamed 211 = .ok (.invokevirtual 193, 3) := by decide +kernel
theorem dX5_kindNamed_214 : decode cX5_kindNamed 214 = .ok (.ifCond .eq 35, 3) := by decide +kernel
theorem dX5_kindNamed_217 : decode cX5_kindNamed 217 = .ok (.aload_n 0, 1) := by decide +kernel
theorem dX5_kindNamed_218 : decode cX5_kindNamed 218 = .ok (.iconst 0, 1) := by decide +kernel
theorem dX5_kindNamed_219 : decode cX5_kindNamed 219 = .ok (.bipush 105, 2) := by decide +kernel
theorem dX5_kindNamed_221 : decode cX5_kindNamed 221 = .ok (.bipush 100, 2) := by decide +kernel
theorem dX5_kindNamed_223 : decode cX5_kindNamed 223 = .ok (.bipush 108, 2) := by decide +kernel
theorem dX5_kindNamed_225 : decode cX5_kindNamed 225 = .ok (.invokevirtual 196, 3) := by decide +kernel
theorem dX5_kindNamed_228 : decode cX5_kindNamed 228 = .ok (.ifCond .eq 21, 3) := by decide +kernel
theorem dX5_kindNamed_231 : decode cX5_kindNamed 231 = .ok (.aload_n 0, 1) := by decide +kernel
theorem dX5_kindNamed_232 : decode cX5_kindNamed 232 = .ok (.iconst 2, 1) := by decide +kernel
theorem dX5_kindNamed_233 : decode cX5_kindNamed 233 = .ok (.bipush 108, 2) := by decide +kernel
theorem dX5_kindNamed_235 : decode cX5_kindNamed 235 = .ok (.bipush 101, 2) := by decide +kernel
theorem dX5_kindNamed_237 : decode cX5_kindNamed 237 = .ok (.bipush 114, 2) := by decide +kernel
theorem dX5_kindNamed_239 : decode cX5_kindNamed 239 = .ok (.invokevirtual 196, 3) := by decide +kernel
theorem dX5_kindNamed_242 : decode cX5_kindNamed 242 = .ok (.ifCond .eq 7, 3) := by decide +kernel
theorem dX5_kindNamed_245 : decode cX5_kindNamed 245 = .ok (.iconst 5, 1) := by decide +kernel
theorem dX5_kindNamed_246 : decode cX5_kindNamed 246 = .ok (.goto 4, 3) := by decide +kernel
theorem dX5_kindNamed_249 : decode cX5_kindNamed 249 = .ok (.iconst (-1), 1) := by decide +kernel
theorem dX5_kindNamed_250 : decode cX5_kindNamed 250 = .ok (.ireturn, 1) := by decide +kernel
set_option maxRecDepth 20000 in
theorem ggX5_letNamed_X5_isWord : GoodIn wsX5_letNamed wsX5_isWord := goodIn_r _ [5, 6, 7, 8, 19, 20, 21, 22, 23, 24, 25, 26, 27, 28, 29, 30, 31, 32, 33] rfl (by decide +kernel)
set_option maxRecDepth 20000 in
theorem gX5_letNamed_X5_isWord : GoodIn wsX5_letNamed (wsV RX5 193 RX5 yX5_isWord wsX5_isWord) := goodIn_app (goodIn_of _ (by decide +kernel)) ggX5_letNamed_X5_isWord
set_option maxRecDepth 20000 in
theorem ggX5_letNamed_X5_has3 : GoodIn wsX5_letNamed wsX5_has3 := goodIn_r _ [12, 8, 13, 14, 15, 4, 16, 17, 18, 19, 20, 21, 22, 23, 24, 25, 26, 27, 28, 29, 30, 31, 32, 33] rfl (by decide +kernel)
set_option maxRecDepth 20000 in
theorem gX5_letNamed_X5_has3 : GoodIn wsX5_letNamed (wsV RX5 196 RX5 yX5_has3 wsX5_has3) := goodIn_app (goodIn_of _ (by decide +kernel)) ggX5_letNamed_X5_has3
theorem dX5_letNamed_0 : decode cX5_letNamed 0 = .ok (.aload_n 0, 1) := by decide +kernel
theorem dX5_letNamed_1 : decode cX5_letNamed 1 = .ok (.bipush 6, 2) := by decide +kernel
theorem dX5_letNamed_3 : decode cX5_letNamed 3 = .ok (.invokevirtual 193, 3) := by decide +kernel
theorem dX5_letNamed_6 : decode cX5_letNamed 6 = .ok (.ifCond .eq 33, 3) := by decide +kernel
theorem dX5_letNamed_9 : decode cX5_letNamed 9 = .ok (.aload_n 0, 1) := by decide +kernel
theorem dX5_letNamed_10 : decode cX5_letNamed 10 = .ok (.iconst 0, 1) := by decide +kernel
theorem dX5_letNamed_11 : decode cX5_letNamed 11 = .ok (.bipush 108, 2) := by decide +kernel
theorem dX5_letNamed_13 : decode cX5_letNamed 13 = .ok (.bipush 101, 2) := by decide +kernel
theorem dX5_letNamed_15 : decode cX5_letNamed 15 = .ok (.bipush 110, 2) := by decide +kernel
theorem dX5_letNamed_17 : decode cX5_letNamed 17 = .ok (.invokevirtual 196, 3) := by decide +kernel
theorem dX5_letNamed_20 : decode cX5_letNamed 20 = .ok (.ifCond .eq 19, 3) := by decide +kernel
theorem dX5_letNamed_23 : decode cX5_letNamed 23 = .ok (.aload_n 0, 1) := by decide +kernel
theorem dX5_letNamed_24 : decode cX5_letNamed 24 = .ok (.iconst 3, 1) := by decide +kernel
theorem dX5_letNamed_25 : decode cX5_letNamed 25 = .ok (.bipush 103, 2) := by decide +kernel
theorem dX5_letNamed_27 : decode cX5_letNamed 27 = .ok (.bipush 116, 2) := by decide +kernel
theorem dX5_letNamed_29 : decode cX5_letNamed 29 = .ok (.bipush 104, 2) := by decide +kernel
theorem dX5_letNamed_31 : decode cX5_letNamed 31 = .ok (.invokevirtual 196, 3) := by decide +kernel
theorem dX5_letNamed_34 : decode cX5_letNamed 34 = .ok (.ifCond .eq 5, 3) := by decide +kernel
theorem dX5_letNamed_37 : decode cX5_letNamed 37 = .ok (.iconst 0, 1) := by decide +kernel
theorem dX5_letNamed_38 : decode cX5_letNamed 38 = .ok (.ireturn, 1) := by decide +kernel
theorem dX5_letNamed_39 : decode cX5_letNamed 39 = .ok (.aload_n 0, 1) := by decide +kernel
theorem dX5_letNamed_40 : decode cX5_letNamed 40 = .ok (.iconst 5, 1) := by decide +kernel
theorem dX5_letNamed_41 : decode cX5_letNamed 41 = .ok (.invokevirtual 193, 3) := by decide +kernel
theorem dX5_letNamed_44 : decode cX5_letNamed 44 = .ok (.ifCond .eq 33, 3) := by decide +kernel
theorem dX5_letNamed_47 : decode cX5_letNamed 47 = .ok (.aload_n 0, 1) := by decide +kernel
theorem dX5_letNamed_48 : decode cX5_letNamed 48 = .ok (.iconst 0, 1) := by decide +kernel
theorem dX5_letNamed_49 : decode cX5_letNamed 49 = .ok (.bipush 108, 2) := by decide +kernel
theorem dX5_letNamed_51 : decode cX5_letNamed 51 = .ok (.bipush 101, 2) := by decide +kernel
theorem dX5_letNamed_53 : decode cX5_letNamed 53 = .ok (.bipush 97, 2) := by decide +kernel
theorem dX5_letNamed_55 : decode cX5_letNamed 55 = .ok (.invokevirtual 196, 3) := by decide +kernel
theorem dX5_letNamed_58 : decode cX5_letNamed 58 = .ok (.ifCond .eq 19, 3) := by decide +kernel
theorem dX5_letNamed_61 : decode cX5_letNamed 61 = .ok (.aload_n 0, 1) := by decide +kernel
theorem dX5_letNamed_62 : decode cX5_letNamed 62 = .ok (.iconst 2, 1) := by decide +kernel
theorem dX5_letNamed_63 : decode cX5_letNamed 63 = .ok (.bipush 97, 2) := by decide +kernel
theorem dX5_letNamed_65 : decode cX5_letNamed 65 = .ok (.bipush 115, 2) := by decide +kernel
theorem dX5_letNamed_67 : decode cX5_letNamed 67 = .ok (.bipush 116, 2) := by decide +kernel
theorem dX5_letNamed_69 : decode cX5_letNamed 69 = .ok (.invokevirtual 196, 3) := by decide +kernel
theorem dX5_letNamed_72 : decode cX5_letNamed 72 = .ok (.ifCond .eq 5, 3) := by decide +kernel
theorem dX5_letNamed_75 : decode cX5_letNamed 75 = .ok (.iconst 1, 1) := by decide +kernel
theorem dX5_letNamed_76 : decode cX5_letNamed 76 = .ok (.ireturn, 1) := by decide +kernel
theorem dX5_letNamed_77 : decode cX5_letNamed 77 = .ok (.aload_n 0, 1) := by decide +kernel
theorem dX5_letNamed_78 : decode cX5_letNamed 78 = .ok (.iconst 3, 1) := by decide +kernel
theorem dX5_letNamed_79 : decode cX5_letNamed 79 = .ok (.invokevirtual 193, 3) := by decide +kernel
theorem dX5_letNamed_82 : decode cX5_letNamed 82 = .ok (.ifCond .eq 21, 3) := by decide +kernel
theorem dX5_letNamed_85 : decode cX5_letNamed 85 = .ok (.aload_n 0, 1) := by decide +kernel
theorem dX5_letNamed_86 : decode cX5_letNamed 86 = .ok (.iconst 0, 1) := by decide +kernel
theorem dX5_letNamed_87 : decode cX5_letNamed 87 = .ok (.bipush 108, 2) := by decide +kernel
theorem dX5_letNamed_89 : decode cX5_letNamed 89 = .ok (.bipush 97, 2) := by decide +kernel
theorem dX5_letNamed_91 : decode cX5_letNamed 91 = .ok (.bipush 119, 2) := by decide +kernel
theorem dX5_letNamed_93 : decode cX5_letNamed 93 = .ok (.invokevirtual 196, 3) := by decide +kernel
theorem dX5_letNamed_96 : decode cX5_letNamed 96 = .ok (.ifCond .eq 7, 3) := by decide +kernel
theorem dX5_letNamed_99 : decode cX5_letNamed 99 = .ok (.iconst 2, 1) := by decide +kernel
theorem dX5_letNamed_100 : decode cX5_letNamed 100 = .ok (.goto 4, 3) := by decide +kernel
theorem dX5_letNamed_103 : decode cX5_letNamed 103 = .ok (.iconst (-1), 1) := by decide +kernel
theorem dX5_letNamed_104 : decode cX5_letNamed 104 = .ok (.ireturn, 1) := by decide +kernel
set_option maxRecDepth 20000 in
theorem ggX5_isNumber_X5_isIn : GoodIn wsX5_isNumber wsX5_isIn := goodIn_r _ [6] rfl (by decide +kernel)
set_option maxRecDepth 20000 in
theorem gX5_isNumber_X5_isIn : GoodIn wsX5_isNumber (va_wsS RX5 50 yX5_isIn wsX5_isIn) := goodIn_app (goodIn_of _ (by decide +kernel)) ggX5_isNumber_X5_isIn
theorem dX5_isNumber_0 : decode cX5_isNumber 0 = .ok (.aload_n 0, 1) := by decide +kernel
theorem dX5_isNumber_1 : decode cX5_isNumber 1 = .ok (.getfield 187, 3) := by decide +kernel
theorem dX5_isNumber_4 : decode cX5_isNumber 4 = .ok (.iconst 2, 1) := by decide +kernel
theorem dX5_isNumber_5 : decode cX5_isNumber 5 = .ok (.if_icmp .ne 22, 3) := by decide +kernel
theorem dX5_isNumber_8 : decode cX5_isNumber 8 = .ok (.aload_n 0, 1) := by decide +kernel
theorem dX5_isNumber_9 : decode cX5_isNumber 9 = .ok (.getfield 190, 3) := by decide +kernel
theorem dX5_isNumber_12 : decode cX5_isNumber 12 = .ok (.i2l, 1) := by decide +kernel
theorem dX5_isNumber_13 : decode cX5_isNumber 13 = .ok (.iload_n 1, 1) := by decide +kernel
theorem dX5_isNumber_14 : decode cX5_isNumber 14 = .ok (.i2l, 1) := by decide +kernel
theorem dX5_isNumber_15 : decode cX5_isNumber 15 = .ok (.iload_n 2, 1) := by decide +kernel
theorem dX5_isNumber_16 : decode cX5_isNumber 16 = .ok (.i2l, 1) := by decide +kernel
theorem dX5_isNumber_17 : decode cX5_isNumber 17 = .ok (.invokestatic 50, 3) := by decide +kernel
theorem dX5_isNumber_20 : decode cX5_isNumber 20 = .ok (.ifCond .eq 7, 3) := by decide +kernel
theorem dX5_isNumber_23 : decode cX5_isNumber 23 = .ok (.iconst 1, 1) := by decide +kernel
theorem dX5_isNumber_24 : decode cX5_isNumber 24 = .ok (.goto 4, 3) := by decide +kernel
theorem dX5_isNumber_27 : decode cX5_isNumber 27 = .ok (.iconst 0, 1) := by decide +kernel
theorem dX5_isNumber_28 : decode cX5_isNumber 28 = .ok (.ireturn, 1) := by decide +kernel
set_option maxRecDepth 20000 in
theorem ggX5_mayCome_X5_nextToken : GoodIn wsX5_mayCome wsX5_nextToken := goodIn_r _ [5, 6, 7, 8, 9, 10, 11, 12, 4, 13, 14, 15, 16, 17, 18, 19, 20, 21, 29, 30, 31, 32, 33, 34, 35, 36, 37, 38, 39, 40, 41, 42, 43] rfl (by decide +kernel)
set_option maxRecDepth 20000 in
theorem gX5_mayCome_X5_nextToken : GoodIn wsX5_mayCome (wsV RX5 200 RX5 yX5_nextToken wsX5_nextToken) := goodIn_app (goodIn_of _ (by decide +kernel)) ggX5_mayCome_X5_nextToken
set_option maxRecDepth 20000 in
theorem ggX5_mayCome_X5_isNumber : GoodIn wsX5_mayCome wsX5_isNumber := goodIn_r _ [25, 8, 9, 26, 27, 4, 28, 29, 30, 31, 32, 33, 34, 35, 36, 37, 38, 39, 40, 41, 42, 43] rfl (by decide +kernel)
set_option maxRecDepth 20000 in
theorem gX5_mayCome_X5_isNumber : GoodIn wsX5_mayCome (wsV RX5 203 RX5 yX5_isNumber wsX5_isNumber) := goodIn_app (goodIn_of _ (by decide +kernel)) ggX5_mayCome_X5_isNumber
theorem dX5_mayCome_0 : decode cX5_mayCome 0 = .ok (.iload_n 1, 1) := by decide +kernel
theorem dX5_mayCome_1 : decode cX5_mayCome 1 = .ok (.ifCond .ne 5, 3) := by decide +kernel
theorem dX5_mayCome_4 : decode cX5_mayCome 4 = .ok (.iconst 0, 1) := by decide +kernel
theorem dX5_mayCome_5 : decode cX5_mayCome 5 = .ok (.ireturn, 1) := by decide +kernel
theorem dX5_mayCome_6 : decode cX5_mayCome 6 = .ok (.aload_n 0, 1) := by decide +kernel
theorem dX5_mayCome_7 : decode cX5_mayCome 7 = .ok (.invokevirtual 200, 3) := by decide +kernel
theorem dX5_mayCome_10 : decode cX5_mayCome 10 = .ok (.aload_n 0, 1) := by decide +kernel
theorem dX5_mayCome_11 : decode cX5_mayCome 11 = .ok (.iload_n 2, 1) := by decide +kernel
theorem dX5_mayCome_12 : decode cX5_mayCome 12 = .ok (.iload_n 3, 1) := by decide +kernel
theorem dX5_mayCome_13 : decode cX5_mayCome 13 = .ok (.invokevirtual 203, 3) := by decide +kernel
theorem dX5_mayCome_16 : decode cX5_mayCome 16 = .ok (.ifCond .eq 7, 3) := by decide +kernel
theorem dX5_mayCome_19 : decode cX5_mayCome 19 = .ok (.iconst 1, 1) := by decide +kernel
theorem dX5_mayCome_20 : decode cX5_mayCome 20 = .ok (.goto 4, 3) := by decide +kernel
theorem dX5_mayCome_23 : decode cX5_mayCome 23 = .ok (.iconst (-1), 1) := by decide +kernel
theorem dX5_mayCome_24 : decode cX5_mayCome 24 = .ok (.ireturn, 1) := by decide +kernel
set_option maxRecDepth 20000 in
theorem ggX5_goesRunner_X5_nextToken : GoodIn wsX5_goesRunner wsX5_nextToken := goodIn_r _ [7, 8, 9, 10, 2, 11, 12, 13, 6, 14, 15, 16, 17, 18, 19, 20, 21, 22, 50, 51, 52, 53, 54, 55, 56, 57, 58, 59, 60, 61, 62, 63, 64] rfl (by decide +kernel)
set_option maxRecDepth 20000 in
theorem gX5_goesRunner_X5_nextToken : GoodIn wsX5_goesRunner (wsV RX5 200 RX5 yX5_nextToken wsX5_nextToken) := goodIn_app (goodIn_of _ (by decide +kernel)) ggX5_goesRunner_X5_nextToken
set_option maxRecDepth 20000 in
theorem ggX5_goesRunner_X5_isWord : GoodIn wsX5_goesRunner wsX5_isWord := goodIn_r _ [26, 10, 8, 9, 50, 51, 52, 53, 54, 55, 56, 57, 58, 59, 60, 61, 62, 63, 64] rfl (by decide +kernel)
set_option maxRecDepth 20000 in
theorem gX5_goesRunner_X5_isWord : GoodIn wsX5_goesRunner (wsV RX5 193 RX5 yX5_isWord wsX5_isWord) := goodIn_app (goodIn_of _ (by decide +kernel)) ggX5_goesRunner_X5_isWord
set_option maxRecDepth 20000 in
theorem ggX5_goesRunner_X5_has3 : GoodIn wsX5_goesRunner wsX5_has3 := goodIn_r _ [30, 9, 11, 12, 13, 6, 14, 15, 16, 50, 51, 52, 53, 54, 55, 56, 57, 58, 59, 60, 61, 62, 63, 64] rfl (by decide +kernel)
set_option maxRecDepth 20000 in
theorem gX5_goesRunner_X5_has3 : GoodIn wsX5_goesRunner (wsV RX5 196 RX5 yX5_has3 wsX5_has3) := goodIn_app (goodIn_of _ (by decide +kernel)) ggX5_goesRunner_X5_has3
set_option maxRecDepth 20000 in
theorem ggX5_goesRunner_X5_isNumber : GoodIn wsX5_goesRunner wsX5_isNumber := goodIn_r _ [34, 10, 2, 35, 36, 6, 37, 50, 51, 52, 53, 54, 55, 56, 57, 58, 59, 60, 61, 62, 63, 64] rfl (by decide +kernel)
set_option maxRecDepth 20000 in
theorem gX5_goesRunner_X5_isNumber : GoodIn wsX5_goesRunner (wsV RX5 203 RX5 yX5_isNumber wsX5_isNumber) := goodIn_app (goodIn_of _ (by decide +kernel)) ggX5_goesRunner_X5_isNumber
set_option maxRecDepth 20000 in
theorem ggX5_goesRunner_X5_comes : GoodIn wsX5_goesRunner wsX5_comes := goodIn_r _ [41, 1, 42, 43, 44, 6, 45, 50, 51, 52, 53, 54, 55, 56, 57, 58, 59, 60, 61, 62, 63, 64] rfl (by decide +kernel)
set_option maxRecDepth 20000 in
theorem gX5_goesRunner_X5_comes : GoodIn wsX5_goesRunner (wsV RX5 75 RX5 yX5_comes wsX5_comes) := goodIn_app (goodIn_of _ (by decide +kernel)) ggX5_goesRunner_X5_comes
set_option maxRecDepth 20000 in
theorem ggX5_goesRunner_X5_mayCome : GoodIn wsX5_goesRunner wsX5_mayCome := goodIn_r _ [49, 3, 4, 5, 6, 7, 8, 9, 10, 2, 11, 12, 13, 14, 15, 16, 17, 18, 19, 20, 21, 22, 31, 32, 33, 34, 35, 36, 37, 50, 51, 52, 53, 54, 55, 56, 57, 58, 59, 60, 61, 62, 63, 64] rfl (by decide +kernel)
set_option maxRecDepth 20000 in
theorem gX5_goesRunner_X5_mayCome : GoodIn wsX5_goesRunner (wsV RX5 206 RX5 yX5_mayCome wsX5_mayCome) := goodIn_app (goodIn_of _ (by decide +kernel)) ggX5_goesRunner_X5_mayCome
set_option maxRecDepth 20000 in
theorem ggX5_goesRunner_X5_puts : GoodIn wsX5_goesRunner wsX5_puts := goodIn_r _ [45, 1, 50, 51, 52, 53, 54, 55, 56, 57, 58, 59, 60, 61, 62, 63, 64] rfl (by decide +kernel)
set_option maxRecDepth 20000 in
theorem gX5_goesRunner_X5_puts : GoodIn wsX5_goesRunner (wsV RX5 64 RX5 yX5_puts wsX5_puts) := goodIn_app (goodIn_of _ (by decide +kernel)) ggX5_goesRunner_X5_puts
theorem dX5_goesRunner_0 : decode cX5_goesRunner 0 = .ok (.aload_n 0, 1) := by decide +kernel
theorem dX5_goesRunner_1 : decode cX5_goesRunner 1 = .ok (.getfield 7, 3) := by decide +kernel
theorem dX5_goesRunner_4 : decode cX5_goesRunner 4 = .ok (.iconst 0, 1) := by decide +kernel
theorem dX5_goesRunner_5 : decode cX5_goesRunner 5 = .ok (.iaload, 1) := by decide +kernel
theorem dX5_goesRunner_6 : decode cX5_goesRunner 6 = .ok (.bipush 9, 2) := by decide +kernel
theorem dX5_goesRunner_8 : decode cX5_goesRunner 8 = .ok (.if_icmp .ne 5, 3) := by decide +kernel
theorem dX5_goesRunner_11 : decode cX5_goesRunner 11 = .ok (.iconst 0, 1) := by decide +kernel
theorem dX5_goesRunner_12 : decode cX5_goesRunner 12 = .ok (.ireturn, 1) := by decide +kernel
theorem dX5_goesRunner_13 : decode cX5_goesRunner 13 = .ok (.aload_n 0, 1) := by decide +kernel
theorem dX5_goesRunner_14 : decode cX5_goesRunner 14 = .ok (.invokevirtual 200, 3) := by decide +kernel
theorem dX5_goesRunner_17 : decode cX5_goesRunner 17 = .ok (.aload_n 0, 1) := by decide +kernel
theorem dX5_goesRunner_18 : decode cX5_goesRunner 18 = .ok (.iconst 4, 1) := by decide +kernel
theorem dX5_goesRunner_19 : decode cX5_goesRunner 19 = .ok (.invokevirtual 193, 3) := by decide +kernel
theorem dX5_goesRunner_22 : decode cX5_goesRunner 22 = .ok (.ifCond .eq 31, 3) := by decide +kernel
theorem dX5_goesRunner_25 : decode cX5_goesRunner 25 = .ok (.aload_n 0, 1) := by decide +kernel
theorem dX5_goesRunner_26 : decode cX5_goesRunner 26 = .ok (.iconst 0, 1) := by decide +kernel
theorem dX5_goesRunner_27 : decode cX5_goesRunner 27 = .ok (.bipush 112, 2) := by decide +kernel
theorem dX5_goesRunner_29 : decode cX5_goesRunner 29 = .ok (.bipush 97, 2) := by decide +kernel
theorem dX5_goesRunner_31 : decode cX5_goesRunner 31 = .ok (.bipush 99, 2) := by decide +kernel
theorem dX5_goesRunner_33 : decode cX5_goesRunner 33 = .ok (.invokevirtual 196, 3) := by decide +kernel
theorem dX5_goesRunner_36 : decode cX5_goesRunner 36 = .ok (.ifCond .eq 17, 3) := by decide +kernel
theorem dX5_goesRunner_39 : decode cX5_goesRunner 39 = .ok (.aload_n 0, 1) := by decide +kernel
theorem dX5_goesRunner_40 : decode cX5_goesRunner 40 = .ok (.iconst 1, 1) := by decide +kernel
theorem dX5_goesRunner_41 : decode cX5_goesRunner 41 = .ok (.bipush 97, 2) := by decide +kernel
theorem dX5_goesRunner_43 : decode cX5_goesRunner 43 = .ok (.bipush 99, 2) := by decide +kernel
theorem dX5_goesRunner_45 : decode cX5_goesRunner 45 = .ok (.bipush 101, 2) := by decide +kernel
theorem dX5_goesRunner_47 : decode cX5_goesRunner 47 = .ok (.invokevirtual 196, 3) := by decide +kernel
theorem dX5_goesRunner_50 : decode cX5_goesRunner 50 = .ok (.ifCond .ne 5, 3) := by decide +kernel
theorem dX5_goesRunner_53 : decode cX5_goesRunner 53 = .ok (.iconst 0, 1) := by decide +kernel
theorem dX5_goesRunner_54 : decode cX5_goesRunner 54 = .ok (.ireturn, 1) := by decide +kernel
theorem dX5_goesRunner_55 : decode cX5_goesRunner 55 = .ok (.aload_n 0, 1) := by decide +kernel
theorem dX5_goesRunner_56 : decode cX5_goesRunner 56 = .ok (.invokevirtual 200, 3) := by decide +kernel
theorem dX5_goesRunner_59 : decode cX5_goesRunner 59 = .ok (.aload_n 0, 1) := by decide +kernel
theorem dX5_goesRunner_60 : decode cX5_goesRunner 60 = .ok (.iconst 1, 1) := by decide +kernel
theorem dX5_goesRunner_61 : decode cX5_goesRunner 61 = .ok (.bipush 12, 2) := by decide +kernel
theorem dX5_goesRunner_63 : decode cX5_goesRunner 63 = .ok (.invokevirtual 203, 3) := by decide +kernel
theorem dX5_goesRunner_66 : decode cX5_goesRunner 66 = .ok (.ifCond .ne 5, 3) := by decide +kernel
theorem dX5_goesRunner_69 : decode cX5_goesRunner 69 = .ok (.iconst 0, 1) := by decide +kernel
theorem dX5_goesRunner_70 : decode cX5_goesRunner 70 = .ok (.ireturn, 1) := by decide +kernel
theorem dX5_goesRunner_71 : decode cX5_goesRunner 71 = .ok (.aload_n 0, 1) := by decide +kernel
theorem dX5_goesRunner_72 : decode cX5_goesRunner 72 = .ok (.iload_n 1, 1) := by decide +kernel
theorem dX5_goesRunner_73 : decode cX5_goesRunner 73 = .ok (.aload_n 0, 1) := by decide +kernel
theorem dX5_goesRunner_74 : decode cX5_goesRunner 74 = .ok (.getfield 190, 3) := by decide +kernel
theorem dX5_goesRunner_77 : decode cX5_goesRunner 77 = .ok (.invokevirtual 75, 3) := by decide +kernel
theorem dX5_goesRunner_80 : decode cX5_goesRunner 80 = .ok (.istore_n 2, 1) := by decide +kernel
theorem dX5_goesRunner_81 : decode cX5_goesRunner 81 = .ok (.aload_n 0, 1) := by decide +kernel
theorem dX5_goesRunner_82 : decode cX5_goesRunner 82 = .ok (.invokevirtual 200, 3) := by decide +kernel
theorem dX5_goesRunner_85 : decode cX5_goesRunner 85 = .ok (.aload_n 0, 1) := by decide +kernel
theorem dX5_goesRunner_86 : decode cX5_goesRunner 86 = .ok (.aload_n 0, 1) := by decide +kernel
theorem dX5_goesRunner_87 : decode cX5_goesRunner 87 = .ok (.bipush 6, 2) := by decide +kernel
theorem dX5_goesRunner_89 : decode cX5_goesRunner 89 = .ok (.invokevirtual 193, 3) := by decide +kernel
theorem dX5_goesRunner_92 : decode cX5_goesRunner 92 = .ok (.ifCond .eq 35, 3) := by decide +kernel
theorem dX5_goesRunner_95 : decode cX5_goesRunner 95 = .ok (.aload_n 0, 1) := by decide +kernel
theorem dX5_goesRunner_96 : decode cX5_goesRunner 96 = .ok (.iconst 0, 1) := by decide +kernel
theorem dX5_goesRunner_97 : decode cX5_goesRunner 97 = .ok (.bipush 98, 2) := by decide +kernel
theorem dX5_goesRunner_99 : decode cX5_goesRunner 99 = .ok (.bipush 114, 2) := by decide +kernel
theorem dX5_goesRunner_101 : decode cX5_goesRunner 101 = .ok (.bipush 101, 2) := by decide +kernel
theorem dX5_goesRunner_103 : decode cX5_goesRunner 103 = .ok (.invokevirtual 196, 3) := by decide +kernel
theorem dX5_goesRunner_106 : decode cX5_goesRunner 106 = .ok (.ifCond .eq 21, 3) := by decide +kernel
theorem dX5_goesRunner_109 : decode cX5_goesRunner 109 = .ok (.aload_n 0, 1) := by decide +kernel
theorem dX5_goesRunner_110 : decode cX5_goesRunner 110 = .ok (.iconst 3, 1) := by decide +kernel
theorem dX5_goesRunner_111 : decode cX5_goesRunner 111 = .ok (.bipush 97, 2) := by decide +kernel
theorem dX5_goesRunner_113 : decode cX5_goesRunner 113 = .ok (.bipush 116, 2) := by decide +kernel
theorem dX5_goesRunner_115 : decode cX5_goesRunner 115 = .ok (.bipush 104, 2) := by decide +kernel
theorem dX5_goesRunner_117 : decode cX5_goesRunner 117 = .ok (.invokevirtual 196, 3) := by decide +kernel
theorem dX5_goesRunner_120 : decode cX5_goesRunner 120 = .ok (.ifCond .eq 7, 3) := by decide +kernel
theorem dX5_goesRunner_123 : decode cX5_goesRunner 123 = .ok (.iconst 1, 1) := by decide +kernel
theorem dX5_goesRunner_124 : decode cX5_goesRunner 124 = .ok (.goto 4, 3) := by decide +kernel
theorem dX5_goesRunner_127 : decode cX5_goesRunner 127 = .ok (.iconst 0, 1) := by decide +kernel
theorem dX5_goesRunner_128 : decode cX5_goesRunner 128 = .ok (.iconst 0, 1) := by decide +kernel
theorem dX5_goesRunner_129 : decode cX5_goesRunner 129 = .ok (.sipush 999, 3) := by decide +kernel
theorem dX5_goesRunner_132 : decode cX5_goesRunner 132 = .ok (.invokevirtual 206, 3) := by decide +kernel
theorem dX5_goesRunner_135 : decode cX5_goesRunner 135 = .ok (.istore_n 3, 1) := by decide +kernel
theorem dX5_goesRunner_136 : decode cX5_goesRunner 136 = .ok (.iload_n 3, 1) := by decide +kernel
theorem dX5_goesRunner_137 : decode cX5_goesRunner 137 = .ok (.ifCond .le 17, 3) := by decide +kernel
theorem dX5_goesRunner_140 : decode cX5_goesRunner 140 = .ok (.aload_n 0, 1) := by decide +kernel
theorem dX5_goesRunner_141 : decode cX5_goesRunner 141 = .ok (.iload_n 2, 1) := by decide +kernel
theorem dX5_goesRunner_142 : decode cX5_goesRunner 142 = .ok (.iconst 2, 1) := by decide +kernel
theorem dX5_goesRunner_143 : decode cX5_goesRunner 143 = .ok (.aload_n 0, 1) := by decide +kernel
theorem dX5_goesRunner_144 : decode cX5_goesRunner 144 = .ok (.getfield 190, 3) := by decide +kernel
theorem dX5_goesRunner_147 : decode cX5_goesRunner 147 = .ok (.invokevirtual 64, 3) := by decide +kernel
theorem dX5_goesRunner_150 : decode cX5_goesRunner 150 = .ok (.aload_n 0, 1) := by decide +kernel
theorem dX5_goesRunner_151 : decode cX5_goesRunner 151 = .ok (.invokevirtual 200, 3) := by decide +kernel
theorem dX5_goesRunner_154 : decode cX5_goesRunner 154 = .ok (.iload_n 3, 1) := by decide +kernel
theorem dX5_goesRunner_155 : decode cX5_goesRunner 155 = .ok (.ifCond .ge 7, 3) := by decide +kernel
theorem dX5_goesRunner_158 : decode cX5_goesRunner 158 = .ok (.iconst (-1), 1) := by decide +kernel
theorem dX5_goesRunner_159 : decode cX5_goesRunner 159 = .ok (.goto 53, 3) := by decide +kernel
theorem dX5_goesRunner_162 : decode cX5_goesRunner 162 = .ok (.aload_n 0, 1) := by decide +kernel
theorem dX5_goesRunner_163 : decode cX5_goesRunner 163 = .ok (.aload_n 0, 1) := by decide +kernel
theorem dX5_goesRunner_164 : decode cX5_goesRunner 164 = .ok (.bipush 6, 2) := by decide +kernel
theorem dX5_goesRunner_166 : decode cX5_goesRunner 166 = .ok (.invokevirtual 193, 3) := by decide +kernel
theorem dX5_goesRunner_169 : decode cX5_goesRunner 169 = .ok (.ifCond .eq 35, 3) := by decide +kernel
theorem dX5_goesRunner_172 : decode cX5_goesRunner 172 = .ok (.aload_n 0, 1) := by decide +kernel
theorem dX5_goesRunner_173 : decode cX5_goesRunner 173 = .ok (.iconst 0, 1) := by decide +kernel
theorem dX5_goesRunner_174 : decode cX5_goesRunner 174 = .ok (.bipush 102, 2) := by decide +kernel
theorem dX5_goesRunner_176 : decode cX5_goesRunner 176 = .ok (.bipush 114, 2) := by decide +kernel
theorem dX5_goesRunner_178 : decode cX5_goesRunner 178 = .ok (.bipush 105, 2) := by decide +kernel
theorem dX5_goesRunner_180 : decode cX5_goesRunner 180 = .ok (.invokevirtual 196, 3) := by decide +kernel
theorem dX5_goesRunner_183 : decode cX5_goesRunner 183 = .ok (.ifCond .eq 21, 3) := by decide +kernel
theorem dX5_goesRunner_186 : decode cX5_goesRunner 186 = .ok (.aload_n 0, 1) := by decide +kernel
theorem dX5_goesRunner_187 : decode cX5_goesRunner 187 = .ok (.iconst 3, 1) := by decide +kernel
theorem dX5_goesRunner_188 : decode cX5_goesRunner 188 = .ok (.bipush 101, 2) := by decide +kernel
theorem dX5_goesRunner_190 : decode cX5_goesRunner 190 = .ok (.bipush 110, 2) := by decide +kernel
theorem dX5_goesRunner_192 : decode cX5_goesRunner 192 = .ok (.bipush 100, 2) := by decide +kernel
theorem dX5_goesRunner_194 : decode cX5_goesRunner 194 = .ok (.invokevirtual 196, 3) := by decide +kernel
theorem dX5_goesRunner_197 : decode cX5_goesRunner 197 = .ok (.ifCond .eq 7, 3) := by decide +kernel
theorem dX5_goesRunner_200 : decode cX5_goesRunner 200 = .ok (.iconst 1, 1) := by decide +kernel
theorem dX5_goesRunner_201 : decode cX5_goesRunner 201 = .ok (.goto 4, 3) := by decide +kernel
theorem dX5_goesRunner_204 : decode cX5_goesRunner 204 = .ok (.iconst 0, 1) := by decide +kernel
theorem dX5_goesRunner_205 : decode cX5_goesRunner 205 = .ok (.iconst 0, 1) := by decide +kernel
theorem dX5_goesRunner_206 : decode cX5_goesRunner 206 = .ok (.iload_n 2, 1) := by decide +kernel
theorem dX5_goesRunner_207 : decode cX5_goesRunner 207 = .ok (.iconst 1, 1) := by decide +kernel
theorem dX5_goesRunner_208 : decode cX5_goesRunner 208 = .ok (.isub, 1) := by decide +kernel
theorem dX5_goesRunner_209 : decode cX5_goesRunner 209 = .ok (.invokevirtual 206, 3) := by decide +kernel
theorem dX5_goesRunner_212 : decode cX5_goesRunner 212 = .ok (.istore_n 3, 1) := by decide +kernel
theorem dX5_goesRunner_213 : decode cX5_goesRunner 213 = .ok (.iload_n 3, 1) := by decide +kernel
theorem dX5_goesRunner_214 : decode cX5_goesRunner 214 = .ok (.ifCond .le 17, 3) := by decide +kernel
theorem dX5_goesRunner_217 : decode cX5_goesRunner 217 = .ok (.aload_n 0, 1) := by decide +kernel
theorem dX5_goesRunner_218 : decode cX5_goesRunner 218 = .ok (.iload_n 2, 1) := by decide +kernel
theorem dX5_goesRunner_219 : decode cX5_goesRunner 219 = .ok (.iconst 3, 1) := by decide +kernel
theorem dX5_goesRunner_220 : decode cX5_goesRunner 220 = .ok (.aload_n 0, 1) := by decide +kernel
theorem dX5_goesRunner_221 : decode cX5_goesRunner 221 = .ok (.getfield 190, 3) := by decide +kernel
theorem dX5_goesRunner_224 : decode cX5_goesRunner 224 = .ok (.invokevirtual 64, 3) := by decide +kernel
theorem dX5_goesRunner_227 : decode cX5_goesRunner 227 = .ok (.aload_n 0, 1) := by decide +kernel
theorem dX5_goesRunner_228 : decode cX5_goesRunner 228 = .ok (.invokevirtual 200, 3) := by decide +kernel
theorem dX5_goesRunner_231 : decode cX5_goesRunner 231 = .ok (.iload_n 3, 1) := by decide +kernel
theorem dX5_goesRunner_232 : decode cX5_goesRunner 232 = .ok (.ifCond .ge 7, 3) := by decide +kernel
theorem dX5_goesRunner_235 : decode cX5_goesRunner 235 = .ok (.iconst (-1), 1) := by decide +kernel
theorem dX5_goesRunner_236 : decode cX5_goesRunner 236 = .ok (.goto 57, 3) := by decide +kernel
theorem dX5_goesRunner_239 : decode cX5_goesRunner 239 = .ok (.aload_n 0, 1) := by decide +kernel
theorem dX5_goesRunner_240 : decode cX5_goesRunner 240 = .ok (.aload_n 0, 1) := by decide +kernel
theorem dX5_goesRunner_241 : decode cX5_goesRunner 241 = .ok (.iconst 5, 1) := by decide +kernel
theorem dX5_goesRunner_242 : decode cX5_goesRunner 242 = .ok (.invokevirtual 193, 3) := by decide +kernel
theorem dX5_goesRunner_245 : decode cX5_goesRunner 245 = .ok (.ifCond .eq 35, 3) := by decide +kernel
theorem dX5_goesRunner_248 : decode cX5_goesRunner 248 = .ok (.aload_n 0, 1) := by decide +kernel
theorem dX5_goesRunner_249 : decode cX5_goesRunner 249 = .ok (.iconst 0, 1) := by decide +kernel
theorem dX5_goesRunner_250 : decode cX5_goesRunner 250 = .ok (.bipush 115, 2) := by decide +kernel
theorem dX5_goesRunner_252 : decode cX5_goesRunner 252 = .ok (.bipush 116, 2) := by decide +kernel
theorem dX5_goesRunner_254 : decode cX5_goesRunner 254 = .ok (.bipush 97, 2) := by decide +kernel
theorem dX5_goesRunner_256 : decode cX5_goesRunner 256 = .ok (.invokevirtual 196, 3) := by decide +kernel
theorem dX5_goesRunner_259 : decode cX5_goesRunner 259 = .ok (.ifCond .eq 21, 3) := by decide +kernel
theorem dX5_goesRunner_262 : decode cX5_goesRunner 262 = .ok (.aload_n 0, 1) := by decide +kernel
theorem dX5_goesRunner_263 : decode cX5_goesRunner 263 = .ok (.iconst 2, 1) := by decide +kernel
theorem dX5_goesRunner_264 : decode cX5_goesRunner 264 = .ok (.bipush 97, 2) := by decide +kernel
theorem dX5_goesRunner_266 : decode cX5_goesRunner 266 = .ok (.bipush 114, 2) := by decide +kernel
theorem dX5_goesRunner_268 : decode cX5_goesRunner 268 = .ok (.bipush 116, 2) := by decide +kernel
theorem dX5_goesRunner_270 : decode cX5_goesRunner 270 = .ok (.invokevirtual 196, 3) := by decide +kernel
theorem dX5_goesRunner_273 : decode cX5_goesRunner 273 = .ok (.ifCond .eq 7, 3) := by decide +kernel
theorem dX5_goesRunner_276 : decode cX5_goesRunner 276 = .ok (.iconst 1, 1) := by decide +kernel
theorem dX5_goesRunner_277 : decode cX5_goesRunner 277 = .ok (.goto 4, 3) := by decide +kernel
theorem dX5_goesRunner_280 : decode cX5_goesRunner 280 = .ok (.iconst 0, 1) := by decide +kernel
theorem dX5_goesRunner_281 : decode cX5_goesRunner 281 = .ok (.iconst 0, 1) := by decide +kernel
theorem dX5_goesRunner_282 : decode cX5_goesRunner 282 = .ok (.aload_n 0, 1) := by decide +kernel
theorem dX5_goesRunner_283 : decode cX5_goesRunner 283 = .ok (.getfield 7, 3) := by decide +kernel
theorem dX5_goesRunner_286 : decode cX5_goesRunner 286 = .ok (.iconst 1, 1) := by decide +kernel
theorem dX5_goesRunner_287 : decode cX5_goesRunner 287 = .ok (.iaload, 1) := by decide +kernel
theorem dX5_goesRunner_288 : decode cX5_goesRunner 288 = .ok (.iconst 1, 1) := by decide +kernel
theorem dX5_goesRunner_289 : decode cX5_goesRunner 289 = .ok (.isub, 1) := by decide +kernel
theorem dX5_goesRunner_290 : decode cX5_goesRunner 290 = .ok (.invokevirtual 206, 3) := by decide +kernel
theorem dX5_goesRunner_293 : decode cX5_goesRunner 293 = .ok (.istore_n 3, 1) := by decide +kernel
theorem dX5_goesRunner_294 : decode cX5_goesRunner 294 = .ok (.iload_n 3, 1) := by decide +kernel
theorem dX5_goesRunner_295 : decode cX5_goesRunner 295 = .ok (.ifCond .le 27, 3) := by decide +kernel
theorem dX5_goesRunner_298 : decode cX5_goesRunner 298 = .ok (.aload_n 0, 1) := by decide +kernel
theorem dX5_goesRunner_299 : decode cX5_goesRunner 299 = .ok (.iload_n 2, 1) := by decide +kernel
theorem dX5_goesRunner_300 : decode cX5_goesRunner 300 = .ok (.iconst 4, 1) := by decide +kernel
theorem dX5_goesRunner_301 : decode cX5_goesRunner 301 = .ok (.aload_n 0, 1) := by decide +kernel
theorem dX5_goesRunner_302 : decode cX5_goesRunner 302 = .ok (.getfield 190, 3) := by decide +kernel
theorem dX5_goesRunner_305 : decode cX5_goesRunner 305 = .ok (.invokevirtual 64, 3) := by decide +kernel
theorem dX5_goesRunner_308 : decode cX5_goesRunner 308 = .ok (.aload_n 0, 1) := by decide +kernel
theorem dX5_goesRunner_309 : decode cX5_goesRunner 309 = .ok (.iload_n 2, 1) := by decide +kernel
theorem dX5_goesRunner_310 : decode cX5_goesRunner 310 = .ok (.iconst 5, 1) := by decide +kernel
theorem dX5_goesRunner_311 : decode cX5_goesRunner 311 = .ok (.aload_n 0, 1) := by decide +kernel
theorem dX5_goesRunner_312 : decode cX5_goesRunner 312 = .ok (.getfield 190, 3) := by decide +kernel
theorem dX5_goesRunner_315 : decode cX5_goesRunner 315 = .ok (.invokevirtual 64, 3) := by decide +kernel
theorem dX5_goesRunner_318 : decode cX5_goesRunner 318 = .ok (.aload_n 0, 1) := by decide +kernel
theorem dX5_goesRunner_319 : decode cX5_goesRunner 319 = .ok (.invokevirtual 200, 3) := by decide +kernel
theorem dX5_goesRunner_322 : decode cX5_goesRunner 322 = .ok (.iload_n 3, 1) := by decide +kernel
theorem dX5_goesRunner_323 : decode cX5_goesRunner 323 = .ok (.ifCond .lt 7, 3) := by decide +kernel
theorem dX5_goesRunner_326 : decode cX5_goesRunner 326 = .ok (.iconst 1, 1) := by decide +kernel
theorem dX5_goesRunner_327 : decode cX5_goesRunner 327 = .ok (.goto 4, 3) := by decide +kernel
theorem dX5_goesRunner_330 : decode cX5_goesRunner 330 = .ok (.iconst 0, 1) := by decide +kernel
theorem dX5_goesRunner_331 : decode cX5_goesRunner 331 = .ok (.ireturn, 1) := by decide +kernel
set_option maxRecDepth 20000 in
theorem ggX5_goesLet_X5_nextToken : GoodIn wsX5_goesLet wsX5_nextToken := goodIn_r _ [7, 8, 9, 10, 2, 11, 12, 13, 6, 14, 15, 16, 17, 18, 19, 20, 21, 22, 36, 37, 38, 39, 40, 41, 42, 43, 44, 45, 46, 47, 48, 49, 50] rfl (by decide +kernel)
set_option maxRecDepth 20000 in
theorem gX5_goesLet_X5_nextToken : GoodIn wsX5_goesLet (wsV RX5 200 RX5 yX5_nextToken wsX5_nextToken) := goodIn_app (goodIn_of _ (by decide +kernel)) ggX5_goesLet_X5_nextToken
set_option maxRecDepth 20000 in
theorem ggX5_goesLet_X5_leastOf : GoodIn wsX5_goesLet wsX5_leastOf := goodIn_r _ [25] rfl (by decide +kernel)
set_option maxRecDepth 20000 in
theorem gX5_goesLet_X5_leastOf : GoodIn wsX5_goesLet (va_wsS RX5 54 yX5_leastOf wsX5_leastOf) := goodIn_app (goodIn_of _ (by decide +kernel)) ggX5_goesLet_X5_leastOf
set_option maxRecDepth 20000 in
theorem ggX5_goesLet_X5_mostOf : GoodIn wsX5_goesLet wsX5_mostOf := goodIn_r _ [28] rfl (by decide +kernel)
set_option maxRecDepth 20000 in
theorem gX5_goesLet_X5_mostOf : GoodIn wsX5_goesLet (va_wsS RX5 57 yX5_mostOf wsX5_mostOf) := goodIn_app (goodIn_of _ (by decide +kernel)) ggX5_goesLet_X5_mostOf
set_option maxRecDepth 20000 in
theorem ggX5_goesLet_X5_isNumber : GoodIn wsX5_goesLet wsX5_isNumber := goodIn_r _ [32, 10, 2, 33, 34, 6, 35, 36, 37, 38, 39, 40, 41, 42, 43, 44, 45, 46, 47, 48, 49, 50] rfl (by decide +kernel)
set_option maxRecDepth 20000 in
theorem gX5_goesLet_X5_isNumber : GoodIn wsX5_goesLet (wsV RX5 203 RX5 yX5_isNumber wsX5_isNumber) := goodIn_app (goodIn_of _ (by decide +kernel)) ggX5_goesLet_X5_isNumber
theorem dX5_goesLet_0 : decode cX5_goesLet 0 = .ok (.iload_n 1, 1) := by decide +kernel
theorem dX5_goesLet_1 : decode cX5_goesLet 1 = .ok (.ifCond .ne 14, 3) := by decide +kernel
theorem dX5_goesLet_4 : decode cX5_goesLet 4 = .ok (.aload_n 0, 1) := by decide +kernel
theorem dX5_goesLet_5 : decode cX5_goesLet 5 = .ok (.getfield 7, 3) := by decide +kernel
theorem dX5_goesLet_8 : decode cX5_goesLet 8 = .ok (.iconst 0, 1) := by decide +kernel
theorem dX5_goesLet_9 : decode cX5_goesLet 9 = .ok (.iaload, 1) := by decide +kernel
theorem dX5_goesLet_10 : decode cX5_goesLet 10 = .ok (.ifCond .le 5, 3) := by decide +kernel
theorem dX5_goesLet_13 : decode cX5_goesLet 13 = .ok (.iconst 0, 1) := by decide +kernel
theorem dX5_goesLet_14 : decode cX5_goesLet 14 = .ok (.ireturn, 1) := by decide +kernel
theorem dX5_goesLet_15 : decode cX5_goesLet 15 = .ok (.aload_n 0, 1) := by decide +kernel
theorem dX5_goesLet_16 : decode cX5_goesLet 16 = .ok (.invokevirtual 200, 3) := by decide +kernel
theorem dX5_goesLet_19 : decode cX5_goesLet 19 = .ok (.aload_n 0, 1) := by decide +kernel
theorem dX5_goesLet_20 : decode cX5_goesLet 20 = .ok (.iload_n 1, 1) := by decide +kernel
theorem dX5_goesLet_21 : decode cX5_goesLet 21 = .ok (.invokestatic 54, 3) := by decide +kernel
theorem dX5_goesLet_24 : decode cX5_goesLet 24 = .ok (.iload_n 1, 1) := by decide +kernel
theorem dX5_goesLet_25 : decode cX5_goesLet 25 = .ok (.invokestatic 57, 3) := by decide +kernel
theorem dX5_goesLet_28 : decode cX5_goesLet 28 = .ok (.invokevirtual 203, 3) := by decide +kernel
theorem dX5_goesLet_31 : decode cX5_goesLet 31 = .ok (.ifCond .ne 5, 3) := by decide +kernel
theorem dX5_goesLet_34 : decode cX5_goesLet 34 = .ok (.iconst 0, 1) := by decide +kernel
theorem dX5_goesLet_35 : decode cX5_goesLet 35 = .ok (.ireturn, 1) := by decide +kernel
theorem dX5_goesLet_36 : decode cX5_goesLet 36 = .ok (.aload_n 0, 1) := by decide +kernel
theorem dX5_goesLet_37 : decode cX5_goesLet 37 = .ok (.getfield 7, 3) := by decide +kernel
theorem dX5_goesLet_40 : decode cX5_goesLet 40 = .ok (.iconst 1, 1) := by decide +kernel
theorem dX5_goesLet_41 : decode cX5_goesLet 41 = .ok (.iload_n 1, 1) := by decide +kernel
theorem dX5_goesLet_42 : decode cX5_goesLet 42 = .ok (.iadd, 1) := by decide +kernel
theorem dX5_goesLet_43 : decode cX5_goesLet 43 = .ok (.aload_n 0, 1) := by decide +kernel
theorem dX5_goesLet_44 : decode cX5_goesLet 44 = .ok (.getfield 190, 3) := by decide +kernel
theorem dX5_goesLet_47 : decode cX5_goesLet 47 = .ok (.iastore, 1) := by decide +kernel
theorem dX5_goesLet_48 : decode cX5_goesLet 48 = .ok (.aload_n 0, 1) := by decide +kernel
theorem dX5_goesLet_49 : decode cX5_goesLet 49 = .ok (.invokevirtual 200, 3) := by decide +kernel
theorem dX5_goesLet_52 : decode cX5_goesLet 52 = .ok (.iconst 1, 1) := by decide +kernel
theorem dX5_goesLet_53 : decode cX5_goesLet 53 = .ok (.ireturn, 1) := by decide +kernel
set_option maxRecDepth 20000 in
theorem ggX5_goesItem_X5_kindNamed : GoodIn wsX5_goesItem wsX5_kindNamed := goodIn_r _ [5, 6, 7, 8, 4, 9, 10, 11, 12, 13, 14, 15, 16, 17, 18, 19, 20, 21, 22, 72, 73, 74, 75, 76, 77, 78, 79, 80, 81, 82, 83, 84, 85, 86] rfl (by decide +kernel)
set_option maxRecDepth 20000 in
theorem gX5_goesItem_X5_kindNamed : GoodIn wsX5_goesItem (wsV RX5 210 RX5 yX5_kindNamed wsX5_kindNamed) := goodIn_app (goodIn_of _ (by decide +kernel)) ggX5_goesItem_X5_kindNamed
set_option maxRecDepth 20000 in
theorem ggX5_goesItem_X5_goesRunner : GoodIn wsX5_goesItem wsX5_goesRunner := goodIn_r _ [26, 27, 28, 29, 30, 31, 4, 32, 11, 12, 10, 17, 18, 19, 20, 21, 22, 33, 34, 35, 36, 37, 38, 6, 7, 8, 9, 13, 14, 15, 16, 39, 40, 41, 42, 43, 44, 45, 46, 47, 48, 49, 50, 51, 52, 53, 54, 55, 56, 57, 72, 73, 74, 75, 76, 77, 78, 79, 80, 81, 82, 83, 84, 85, 86] rfl (by decide +kernel)
set_option maxRecDepth 20000 in
theorem gX5_goesItem_X5_goesRunner : GoodIn wsX5_goesItem (wsV RX5 213 RX5 yX5_goesRunner wsX5_goesRunner) := goodIn_app (goodIn_of _ (by decide +kernel)) ggX5_goesItem_X5_goesRunner
set_option maxRecDepth 20000 in
theorem ggX5_goesItem_X5_letNamed : GoodIn wsX5_goesItem wsX5_letNamed := goodIn_r _ [61, 6, 7, 8, 4, 9, 10, 11, 12, 13, 14, 15, 16, 17, 18, 19, 20, 21, 22, 72, 73, 74, 75, 76, 77, 78, 79, 80, 81, 82, 83, 84, 85, 86] rfl (by decide +kernel)
set_option maxRecDepth 20000 in
theorem gX5_goesItem_X5_letNamed : GoodIn wsX5_goesItem (wsV RX5 216 RX5 yX5_letNamed wsX5_letNamed) := goodIn_app (goodIn_of _ (by decide +kernel)) ggX5_goesItem_X5_letNamed
set_option maxRecDepth 20000 in
theorem ggX5_goesItem_X5_goesLet : GoodIn wsX5_goesItem wsX5_goesLet := goodIn_r _ [65, 27, 28, 29, 30, 31, 4, 32, 11, 12, 10, 17, 18, 19, 20, 21, 22, 33, 34, 35, 36, 37, 38, 66, 67, 68, 69, 70, 71, 39, 40, 41, 42, 43, 44, 45, 72, 73, 74, 75, 76, 77, 78, 79, 80, 81, 82, 83, 84, 85, 86] rfl (by decide +kernel)
set_option maxRecDepth 20000 in
theorem gX5_goesItem_X5_goesLet : GoodIn wsX5_goesItem (wsV RX5 219 RX5 yX5_goesLet wsX5_goesLet) := goodIn_app (goodIn_of _ (by decide +kernel)) ggX5_goesItem_X5_goesLet
theorem dX5_goesItem_0 : decode cX5_goesItem 0 = .ok (.aload_n 0, 1) := by decide +kernel
theorem dX5_goesItem_1 : decode cX5_goesItem 1 = .ok (.invokevirtual 210, 3) := by decide +kernel
theorem dX5_goesItem_4 : decode cX5_goesItem 4 = .ok (.istore_n 1, 1) := by decide +kernel
theorem dX5_goesItem_5 : decode cX5_goesItem 5 = .ok (.iload_n 1, 1) := by decide +kernel
theorem dX5_goesItem_6 : decode cX5_goesItem 6 = .ok (.ifCond .lt 9, 3) := by decide +kernel
theorem dX5_goesItem_9 : decode cX5_goesItem 9 = .ok (.aload_n 0, 1) := by decide +kernel
theorem dX5_goesItem_10 : decode cX5_goesItem 10 = .ok (.iload_n 1, 1) := by decide +kernel
theorem dX5_goesItem_11 : decode cX5_goesItem 11 = .ok (.invokevirtual 213, 3) := by decide +kernel
theorem dX5_goesItem_14 : decode cX5_goesItem 14 = .ok (.ireturn, 1) := by decide +kernel
theorem dX5_goesItem_15 : decode cX5_goesItem 15 = .ok (.aload_n 0, 1) := by decide +kernel
theorem dX5_goesItem_16 : decode cX5_goesItem 16 = .ok (.invokevirtual 216, 3) := by decide +kernel
theorem dX5_goesItem_19 : decode cX5_goesItem 19 = .ok (.istore_n 2, 1) := by decide +kernel
theorem dX5_goesItem_20 : decode cX5_goesItem 20 = .ok (.iload_n 2, 1) := by decide +kernel
theorem dX5_goesItem_21 : decode cX5_goesItem 21 = .ok (.ifCond .lt 15, 3) := by decide +kernel
theorem dX5_goesItem_24 : decode cX5_goesItem 24 = .ok (.aload_n 0, 1) := by decide +kernel
theorem dX5_goesItem_25 : decode cX5_goesItem 25 = .ok (.iload_n 2, 1) := by decide +kernel
theorem dX5_goesItem_26 : decode cX5_goesItem 26 = .ok (.invokevirtual 219, 3) := by decide +kernel
theorem dX5_goesItem_29 : decode cX5_goesItem 29 = .ok (.ifCond .eq 7, 3) := by decide +kernel
theorem dX5_goesItem_32 : decode cX5_goesItem 32 = .ok (.iconst 1, 1) := by decide +kernel
theorem dX5_goesItem_33 : decode cX5_goesItem 33 = .ok (.goto 4, 3) := by decide +kernel
theorem dX5_goesItem_36 : decode cX5_goesItem 36 = .ok (.iconst 0, 1) := by decide +kernel
theorem dX5_goesItem_37 : decode cX5_goesItem 37 = .ok (.ireturn, 1) := by decide +kernel
set_option maxRecDepth 20000 in
theorem ggX5_text_X5_laysBy : GoodIn wsX5_text wsX5_laysBy := goodIn_r _ [9, 10, 11, 85, 86, 87, 88, 89, 90, 91, 92, 93, 94, 95, 96, 97, 98, 99] rfl (by decide +kernel)
set_option maxRecDepth 20000 in
theorem gX5_text_X5_laysBy : GoodIn wsX5_text (wsV RX5 138 RX5 yX5_laysBy wsX5_laysBy) := goodIn_app (goodIn_of _ (by decide +kernel)) ggX5_text_X5_laysBy
set_option maxRecDepth 20000 in
theorem ggX5_text_X5_nextToken : GoodIn wsX5_text wsX5_nextToken := goodIn_r _ [15, 1, 2, 3, 16, 17, 18, 19, 8, 20, 4, 21, 22, 23, 24, 25, 26, 27, 85, 86, 87, 88, 89, 90, 91, 92, 93, 94, 95, 96, 97, 98, 99] rfl (by decide +kernel)
set_option maxRecDepth 20000 in
theorem gX5_text_X5_nextToken : GoodIn wsX5_text (wsV RX5 200 RX5 yX5_nextToken wsX5_nextToken) := goodIn_app (goodIn_of _ (by decide +kernel)) ggX5_text_X5_nextToken
set_option maxRecDepth 20000 in
theorem ggX5_text_X5_goesItem : GoodIn wsX5_text wsX5_goesItem := goodIn_r _ [31, 32, 33, 34, 8, 35, 36, 37, 38, 39, 3, 1, 2, 40, 41, 42, 43, 17, 18, 19, 20, 4, 21, 44, 45, 46, 47, 11, 16, 12, 13, 14, 15, 22, 23, 24, 25, 26, 27, 48, 49, 50, 51, 52, 53, 54, 55, 56, 57, 58, 59, 60, 61, 62, 63, 64, 65, 66, 67, 68, 69, 70, 71, 72, 73, 74, 75, 76, 77, 78, 79, 80, 85, 86, 87, 88, 89, 90, 91, 92, 93, 94, 95, 96, 97, 98, 99] rfl (by decide +kernel)
set_option maxRecDepth 20000 in
theorem gX5_text_X5_goesItem : GoodIn wsX5_text (wsV RX5 222 RX5 yX5_goesItem wsX5_goesItem) := goodIn_app (goodIn_of _ (by decide +kernel)) ggX5_text_X5_goesItem
set_option maxRecDepth 20000 in
theorem ggX5_text_X5_laysBack : GoodIn wsX5_text wsX5_laysBack := goodIn_r _ [84, 11, 10, 85, 86, 87, 88, 89, 90, 91, 92, 93, 94, 95, 96, 97, 98, 99] rfl (by decide +kernel)
set_option maxRecDepth 20000 in
theorem gX5_text_X5_laysBack : GoodIn wsX5_text (wsV RX5 145 RX5 yX5_laysBack wsX5_laysBack) := goodIn_app (goodIn_of _ (by decide +kernel)) ggX5_text_X5_laysBack
theorem dX5_text_0 : decode cX5_text 0 = .ok (.aload_n 0, 1) := by decide +kernel
theorem dX5_text_1 : decode cX5_text 1 = .ok (.invokevirtual 138, 3) := by decide +kernel
theorem dX5_text_4 : decode cX5_text 4 = .ok (.aload_n 0, 1) := by decide +kernel
theorem dX5_text_5 : decode cX5_text 5 = .ok (.iconst 0, 1) := by decide +kernel
theorem dX5_text_6 : decode cX5_text 6 = .ok (.putfield 172, 3) := by decide +kernel
theorem dX5_text_9 : decode cX5_text 9 = .ok (.iconst 0, 1) := by decide +kernel
theorem dX5_text_10 : decode cX5_text 10 = .ok (.istore_n 1, 1) := by decide +kernel
theorem dX5_text_11 : decode cX5_text 11 = .ok (.iconst 1, 1) := by decide +kernel
theorem dX5_text_12 : decode cX5_text 12 = .ok (.istore_n 2, 1) := by decide +kernel
theorem dX5_text_13 : decode cX5_text 13 = .ok (.iload_n 2, 1) := by decide +kernel
theorem dX5_text_14 : decode cX5_text 14 = .ok (.ifCond .eq 68, 3) := by decide +kernel
theorem dX5_text_17 : decode cX5_text 17 = .ok (.aload_n 0, 1) := by decide +kernel
theorem dX5_text_18 : decode cX5_text 18 = .ok (.invokevirtual 200, 3) := by decide +kernel
theorem dX5_text_21 : decode cX5_text 21 = .ok (.aload_n 0, 1) := by decide +kernel
theorem dX5_text_22 : decode cX5_text 22 = .ok (.invokevirtual 222, 3) := by decide +kernel
theorem dX5_text_25 : decode cX5_text 25 = .ok (.ifCond .ne 15, 3) := by decide +kernel
theorem dX5_text_28 : decode cX5_text 28 = .ok (.iconst (-1), 1) := by decide +kernel
theorem dX5_text_29 : decode cX5_text 29 = .ok (.aload_n 0, 1) := by decide +kernel
theorem dX5_text_30 : decode cX5_text 30 = .ok (.getfield 175, 3) := by decide +kernel
theorem dX5_text_33 : decode cX5_text 33 = .ok (.isub, 1) := by decide +kernel
theorem dX5_text_34 : decode cX5_text 34 = .ok (.istore_n 1, 1) := by decide +kernel
theorem dX5_text_35 : decode cX5_text 35 = .ok (.iconst 0, 1) := by decide +kernel
theorem dX5_text_36 : decode cX5_text 36 = .ok (.istore_n 2, 1) := by decide +kernel
theorem dX5_text_37 : decode cX5_text 37 = .ok (.goto (-24), 3) := by decide +kernel
theorem dX5_text_40 : decode cX5_text 40 = .ok (.iinc 1 1, 3) := by decide +kernel
theorem dX5_text_43 : decode cX5_text 43 = .ok (.aload_n 0, 1) := by decide +kernel
theorem dX5_text_44 : decode cX5_text 44 = .ok (.getfield 187, 3) := by decide +kernel
theorem dX5_text_47 : decode cX5_text 47 = .ok (.iconst 3, 1) := by decide +kernel
theorem dX5_text_48 : decode cX5_text 48 = .ok (.if_icmp .ne 7, 3) := by decide +kernel
theorem dX5_text_51 : decode cX5_text 51 = .ok (.iconst 1, 1) := by decide +kernel
theorem dX5_text_52 : decode cX5_text 52 = .ok (.goto 4, 3) := by decide +kernel
theorem dX5_text_55 : decode cX5_text 55 = .ok (.iconst 0, 1) := by decide +kernel
theorem dX5_text_56 : decode cX5_text 56 = .ok (.istore_n 2, 1) := by decide +kernel
theorem dX5_text_57 : decode cX5_text 57 = .ok (.iload_n 2, 1) := by decide +kernel
theorem dX5_text_58 : decode cX5_text 58 = .ok (.ifCond .ne 10, 3) := by decide +kernel
theorem dX5_text_61 : decode cX5_text 61 = .ok (.aload_n 0, 1) := by decide +kernel
theorem dX5_text_62 : decode cX5_text 62 = .ok (.getfield 187, 3) := by decide +kernel
theorem dX5_text_65 : decode cX5_text 65 = .ok (.ifCond .ne 7, 3) := by decide +kernel
theorem dX5_text_68 : decode cX5_text 68 = .ok (.iload_n 1, 1) := by decide +kernel
theorem dX5_text_69 : decode cX5_text 69 = .ok (.goto 9, 3) := by decide +kernel
theorem dX5_text_72 : decode cX5_text 72 = .ok (.iconst (-1), 1) := by decide +kernel
theorem dX5_text_73 : decode cX5_text 73 = .ok (.aload_n 0, 1) := by decide +kernel
theorem dX5_text_74 : decode cX5_text 74 = .ok (.getfield 175, 3) := by decide +kernel
theorem dX5_text_77 : decode cX5_text 77 = .ok (.isub, 1) := by decide +kernel
theorem dX5_text_78 : decode cX5_text 78 = .ok (.istore_n 1, 1) := by decide +kernel
theorem dX5_text_79 : decode cX5_text 79 = .ok (.goto (-66), 3) := by decide +kernel
theorem dX5_text_82 : decode cX5_text 82 = .ok (.iload_n 1, 1) := by decide +kernel
theorem dX5_text_83 : decode cX5_text 83 = .ok (.ifCond .ge 7, 3) := by decide +kernel
theorem dX5_text_86 : decode cX5_text 86 = .ok (.aload_n 0, 1) := by decide +kernel
theorem dX5_text_87 : decode cX5_text 87 = .ok (.invokevirtual 145, 3) := by decide +kernel
theorem dX5_text_90 : decode cX5_text 90 = .ok (.aload_n 0, 1) := by decide +kernel
theorem dX5_text_91 : decode cX5_text 91 = .ok (.iconst 0, 1) := by decide +kernel
theorem dX5_text_92 : decode cX5_text 92 = .ok (.putfield 168, 3) := by decide +kernel
theorem dX5_text_95 : decode cX5_text 95 = .ok (.iload_n 1, 1) := by decide +kernel
theorem dX5_text_96 : decode cX5_text 96 = .ok (.ireturn, 1) := by decide +kernel
theorem dX5_isSheet_0 : decode cX5_isSheet 0 = .ok (.iload_n 0, 1) := by decide +kernel
theorem dX5_isSheet_1 : decode cX5_isSheet 1 = .ok (.ifCond .lt 12, 3) := by decide +kernel
theorem dX5_isSheet_4 : decode cX5_isSheet 4 = .ok (.iload_n 0, 1) := by decide +kernel
theorem dX5_isSheet_5 : decode cX5_isSheet 5 = .ok (.iconst 4, 1) := by decide +kernel
theorem dX5_isSheet_6 : decode cX5_isSheet 6 = .ok (.if_icmp .ge 7, 3) := by decide +kernel
theorem dX5_isSheet_9 : decode cX5_isSheet 9 = .ok (.iconst 1, 1) := by decide +kernel
theorem dX5_isSheet_10 : decode cX5_isSheet 10 = .ok (.goto 4, 3) := by decide +kernel
theorem dX5_isSheet_13 : decode cX5_isSheet 13 = .ok (.iconst 0, 1) := by decide +kernel
theorem dX5_isSheet_14 : decode cX5_isSheet 14 = .ok (.ireturn, 1) := by decide +kernel
theorem dX5_narrow_0 : decode cX5_narrow 0 = .ok (.iload_n 0, 1) := by decide +kernel
theorem dX5_narrow_1 : decode cX5_narrow 1 = .ok (.bipush 8, 2) := by decide +kernel
theorem dX5_narrow_3 : decode cX5_narrow 3 = .ok (.if_icmp .ne 10, 3) := by decide +kernel
theorem dX5_narrow_6 : decode cX5_narrow 6 = .ok (.lload_n 1, 1) := by decide +kernel
theorem dX5_narrow_7 : decode cX5_narrow 7 = .ok (.l2i, 1) := by decide +kernel
theorem dX5_narrow_8 : decode cX5_narrow 8 = .ok (.i2b, 1) := by decide +kernel
theorem dX5_narrow_9 : decode cX5_narrow 9 = .ok (.i2l, 1) := by decide +kernel
theorem dX5_narrow_10 : decode cX5_narrow 10 = .ok (.goto 17, 3) := by decide +kernel
theorem dX5_narrow_13 : decode cX5_narrow 13 = .ok (.iload_n 0, 1) := by decide +kernel
theorem dX5_narrow_14 : decode cX5_narrow 14 = .ok (.bipush 16, 2) := by decide +kernel
theorem dX5_narrow_16 : decode cX5_narrow 16 = .ok (.if_icmp .ne 10, 3) := by decide +kernel
theorem dX5_narrow_19 : decode cX5_narrow 19 = .ok (.lload_n 1, 1) := by decide +kernel
theorem dX5_narrow_20 : decode cX5_narrow 20 = .ok (.l2i, 1) := by decide +kernel
theorem dX5_narrow_21 : decode cX5_narrow 21 = .ok (.i2s, 1) := by decide +kernel
theorem dX5_narrow_22 : decode cX5_narrow 22 = .ok (.i2l, 1) := by decide +kernel
theorem dX5_narrow_23 : decode cX5_narrow 23 = .ok (.goto 4, 3) := by decide +kernel
theorem dX5_narrow_26 : decode cX5_narrow 26 = .ok (.lload_n 1, 1) := by decide +kernel
theorem dX5_narrow_27 : decode cX5_narrow 27 = .ok (.lreturn, 1) := by decide +kernel
set_option maxRecDepth 20000 in
theorem ggX5_sheet_X5_isSheet : GoodIn wsX5_sheet wsX5_isSheet := goodIn_r _ [9] rfl (by decide +kernel)
set_option maxRecDepth 20000 in
theorem gX5_sheet_X5_isSheet : GoodIn wsX5_sheet (va_wsS RX5 225 yX5_isSheet wsX5_isSheet) := goodIn_app (goodIn_of _ (by decide +kernel)) ggX5_sheet_X5_isSheet
set_option maxRecDepth 20000 in
theorem ggX5_sheet_X5_finds : GoodIn wsX5_sheet wsX5_finds := goodIn_r _ [13, 14, 1, 15, 16, 17, 18, 19, 20, 21, 22, 23, 24, 25, 26, 27, 28, 29] rfl (by decide +kernel)
set_option maxRecDepth 20000 in
theorem gX5_sheet_X5_finds : GoodIn wsX5_sheet (wsV RX5 40 RX5 yX5_finds wsX5_finds) := goodIn_app (goodIn_of _ (by decide +kernel)) ggX5_sheet_X5_finds
theorem dX5_sheet_0 : decode cX5_sheet 0 = .ok (.iload_n 1, 1) := by decide +kernel
theorem dX5_sheet_1 : decode cX5_sheet 1 = .ok (.invokestatic 225, 3) := by decide +kernel
theorem dX5_sheet_4 : decode cX5_sheet 4 = .ok (.ifCond .eq 25, 3) := by decide +kernel
theorem dX5_sheet_7 : decode cX5_sheet 7 = .ok (.iload_n 2, 1) := by decide +kernel
theorem dX5_sheet_8 : decode cX5_sheet 8 = .ok (.ifCond .eq 28, 3) := by decide +kernel
theorem dX5_sheet_11 : decode cX5_sheet 11 = .ok (.iload_n 2, 1) := by decide +kernel
theorem dX5_sheet_12 : decode cX5_sheet 12 = .ok (.bipush 8, 2) := by decide +kernel
theorem dX5_sheet_14 : decode cX5_sheet 14 = .ok (.if_icmp .eq 22, 3) := by decide +kernel
theorem dX5_sheet_17 : decode cX5_sheet 17 = .ok (.iload_n 2, 1) := by decide +kernel
theorem dX5_sheet_18 : decode cX5_sheet 18 = .ok (.bipush 16, 2) := by decide +kernel
theorem dX5_sheet_20 : decode cX5_sheet 20 = .ok (.if_icmp .eq 16, 3) := by decide +kernel
theorem dX5_sheet_23 : decode cX5_sheet 23 = .ok (.iload_n 2, 1) := by decide +kernel
theorem dX5_sheet_24 : decode cX5_sheet 24 = .ok (.bipush 64, 2) := by decide +kernel
theorem dX5_sheet_26 : decode cX5_sheet 26 = .ok (.if_icmp .eq 10, 3) := by decide +kernel
theorem dX5_sheet_29 : decode cX5_sheet 29 = .ok (.aload_n 0, 1) := by decide +kernel
theorem dX5_sheet_30 : decode cX5_sheet 30 = .ok (.ldc 38, 2) := by decide +kernel
theorem dX5_sheet_32 : decode cX5_sheet 32 = .ok (.invokevirtual 40, 3) := by decide +kernel
theorem dX5_sheet_35 : decode cX5_sheet 35 = .ok (.ireturn, 1) := by decide +kernel
theorem dX5_sheet_36 : decode cX5_sheet 36 = .ok (.iload_n 3, 1) := by decide +kernel
theorem dX5_sheet_37 : decode cX5_sheet 37 = .ok (.ifCond .ge 10, 3) := by decide +kernel
theorem dX5_sheet_40 : decode cX5_sheet 40 = .ok (.aload_n 0, 1) := by decide +kernel
theorem dX5_sheet_41 : decode cX5_sheet 41 = .ok (.ldc 228, 2) := by decide +kernel
theorem dX5_sheet_43 : decode cX5_sheet 43 = .ok (.invokevirtual 40, 3) := by decide +kernel
theorem dX5_sheet_46 : decode cX5_sheet 46 = .ok (.ireturn, 1) := by decide +kernel
theorem dX5_sheet_47 : decode cX5_sheet 47 = .ok (.iload_n 3, 1) := by decide +kernel
theorem dX5_sheet_48 : decode cX5_sheet 48 = .ok (.bipush 40, 2) := by decide +kernel
theorem dX5_sheet_50 : decode cX5_sheet 50 = .ok (.if_icmp .le 10, 3) := by decide +kernel
theorem dX5_sheet_53 : decode cX5_sheet 53 = .ok (.aload_n 0, 1) := by decide +kernel
theorem dX5_sheet_54 : decode cX5_sheet 54 = .ok (.ldc 38, 2) := by decide +kernel
theorem dX5_sheet_56 : decode cX5_sheet 56 = .ok (.invokevirtual 40, 3) := by decide +kernel
theorem dX5_sheet_59 : decode cX5_sheet 59 = .ok (.ireturn, 1) := by decide +kernel
theorem dX5_sheet_60 : decode cX5_sheet 60 = .ok (.aload_n 0, 1) := by decide +kernel
theorem dX5_sheet_61 : decode cX5_sheet 61 = .ok (.getfield 25, 3) := by decide +kernel
theorem dX5_sheet_64 : decode cX5_sheet 64 = .ok (.iload_n 1, 1) := by decide +kernel
theorem dX5_sheet_65 : decode cX5_sheet 65 = .ok (.iload_n 2, 1) := by decide +kernel
theorem dX5_sheet_66 : decode cX5_sheet 66 = .ok (.ifCond .ne 7, 3) := by decide +kernel
theorem dX5_sheet_69 : decode cX5_sheet 69 = .ok (.iconst (-1), 1) := by decide +kernel
theorem dX5_sheet_70 : decode cX5_sheet 70 = .ok (.goto 4, 3) := by decide +kernel
theorem dX5_sheet_73 : decode cX5_sheet 73 = .ok (.iload_n 2, 1) := by decide +kernel
theorem dX5_sheet_74 : decode cX5_sheet 74 = .ok (.iastore, 1) := by decide +kernel
theorem dX5_sheet_75 : decode cX5_sheet 75 = .ok (.aload_n 0, 1) := by decide +kernel
theorem dX5_sheet_76 : decode cX5_sheet 76 = .ok (.getfield 28, 3) := by decide +kernel
theorem dX5_sheet_79 : decode cX5_sheet 79 = .ok (.iload_n 1, 1) := by decide +kernel
theorem dX5_sheet_80 : decode cX5_sheet 80 = .ok (.iload_n 2, 1) := by decide +kernel
theorem dX5_sheet_81 : decode cX5_sheet 81 = .ok (.ifCond .ne 7, 3) := by decide +kernel
theorem dX5_sheet_84 : decode cX5_sheet 84 = .ok (.iconst 0, 1) := by decide +kernel
theorem dX5_sheet_85 : decode cX5_sheet 85 = .ok (.goto 4, 3) := by decide +kernel
theorem dX5_sheet_88 : decode cX5_sheet 88 = .ok (.iload_n 3, 1) := by decide +kernel
theorem dX5_sheet_89 : decode cX5_sheet 89 = .ok (.iastore, 1) := by decide +kernel
theorem dX5_sheet_90 : decode cX5_sheet 90 = .ok (.iconst 0, 1) := by decide +kernel
theorem dX5_sheet_91 : decode cX5_sheet 91 = .ok (.istore 4, 2) := by decide +kernel
theorem dX5_sheet_93 : decode cX5_sheet 93 = .ok (.iload 4, 2) := by decide +kernel
theorem dX5_sheet_95 : decode cX5_sheet 95 = .ok (.bipush 40, 2) := by decide +kernel
theorem dX5_sheet_97 : decode cX5_sheet 97 = .ok (.if_icmp .ge 22, 3) := by decide +kernel
theorem dX5_sheet_100 : decode cX5_sheet 100 = .ok (.aload_n 0, 1) := by decide +kernel
theorem dX5_sheet_101 : decode cX5_sheet 101 = .ok (.getfield 31, 3) := by decide +kernel
theorem dX5_sheet_104 : decode cX5_sheet 104 = .ok (.bipush 40, 2) := by decide +kernel
theorem dX5_sheet_106 : decode cX5_sheet 106 = .ok (.iload_n 1, 1) := by decide +kernel
theorem dX5_sheet_107 : decode cX5_sheet 107 = .ok (.imul, 1) := by decide +kernel
theorem dX5_sheet_108 : decode cX5_sheet 108 = .ok (.iload 4, 2) := by decide +kernel
theorem dX5_sheet_110 : decode cX5_sheet 110 = .ok (.iadd, 1) := by decide +kernel
theorem dX5_sheet_111 : decode cX5_sheet 111 = .ok (.lconst 0, 1) := by decide +kernel
theorem dX5_sheet_112 : decode cX5_sheet 112 = .ok (.lastore, 1) := by decide +kernel
theorem dX5_sheet_113 : decode cX5_sheet 113 = .ok (.iinc 4 1, 3) := by decide +kernel
theorem dX5_sheet_116 : decode cX5_sheet 116 = .ok (.goto (-23), 3) := by decide +kernel
theorem dX5_sheet_119 : decode cX5_sheet 119 = .ok (.aload_n 0, 1) := by decide +kernel
theorem dX5_sheet_120 : decode cX5_sheet 120 = .ok (.getfield 28, 3) := by decide +kernel
theorem dX5_sheet_123 : decode cX5_sheet 123 = .ok (.iload_n 1, 1) := by decide +kernel
theorem dX5_sheet_124 : decode cX5_sheet 124 = .ok (.iaload, 1) := by decide +kernel
theorem dX5_sheet_125 : decode cX5_sheet 125 = .ok (.ireturn, 1) := by decide +kernel
set_option maxRecDepth 20000 in
theorem ggX5_write_X5_isSheet : GoodIn wsX5_write wsX5_isSheet := goodIn_r _ [9] rfl (by decide +kernel)
set_option maxRecDepth 20000 in
theorem gX5_write_X5_isSheet : GoodIn wsX5_write (va_wsS RX5 225 yX5_isSheet wsX5_isSheet) := goodIn_app (goodIn_of _ (by decide +kernel)) ggX5_write_X5_isSheet
set_option maxRecDepth 20000 in
theorem ggX5_write_X5_finds : GoodIn wsX5_write wsX5_finds := goodIn_r _ [13, 14, 1, 21, 22, 23, 24, 25, 26, 27, 28, 29, 30, 31, 32, 33, 34, 35] rfl (by decide +kernel)
set_option maxRecDepth 20000 in
theorem gX5_write_X5_finds : GoodIn wsX5_write (wsV RX5 40 RX5 yX5_finds wsX5_finds) := goodIn_app (goodIn_of _ (by decide +kernel)) ggX5_write_X5_finds
set_option maxRecDepth 20000 in
theorem ggX5_write_X5_isIn : GoodIn wsX5_write wsX5_isIn := goodIn_r _ [17] rfl (by decide +kernel)
set_option maxRecDepth 20000 in
theorem gX5_write_X5_isIn : GoodIn wsX5_write (va_wsS RX5 50 yX5_isIn wsX5_isIn) := goodIn_app (goodIn_of _ (by decide +kernel)) ggX5_write_X5_isIn
set_option maxRecDepth 20000 in
theorem ggX5_write_X5_narrow : GoodIn wsX5_write wsX5_narrow := goodIn_r _ [20] rfl (by decide +kernel)
set_option maxRecDepth 20000 in
theorem gX5_write_X5_narrow : GoodIn wsX5_write (va_wsS RX5 230 yX5_narrow wsX5_narrow) := goodIn_app (goodIn_of _ (by decide +kernel)) ggX5_write_X5_narrow
theorem dX5_write_0 : decode cX5_write 0 = .ok (.iload_n 1, 1) := by decide +kernel
theorem dX5_write_1 : decode cX5_write 1 = .ok (.invokestatic 225, 3) := by decide +kernel
theorem dX5_write_4 : decode cX5_write 4 = .ok (.ifCond .ne 11, 3) := by decide +kernel
theorem dX5_write_7 : decode cX5_write 7 = .ok (.aload_n 0, 1) := by decide +kernel
theorem dX5_write_8 : decode cX5_write 8 = .ok (.ldc 38, 2) := by decide +kernel
theorem dX5_write_10 : decode cX5_write 10 = .ok (.invokevirtual 40, 3) := by decide +kernel
theorem dX5_write_13 : decode cX5_write 13 = .ok (.i2l, 1) := by decide +kernel
theorem dX5_write_14 : decode cX5_write 14 = .ok (.lreturn, 1) := by decide +kernel
theorem dX5_write_15 : decode cX5_write 15 = .ok (.aload_n 0, 1) := by decide +kernel
theorem dX5_write_16 : decode cX5_write 16 = .ok (.getfield 25, 3) := by decide +kernel
theorem dX5_write_19 : decode cX5_write 19 = .ok (.iload_n 1, 1) := by decide +kernel
theorem dX5_write_20 : decode cX5_write 20 = .ok (.iaload, 1) := by decide +kernel
theorem dX5_write_21 : decode cX5_write 21 = .ok (.ifCond .ge 11, 3) := by decide +kernel
