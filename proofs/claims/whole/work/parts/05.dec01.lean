theorem dX3_goSecond_35 : decode cX3_goSecond 35 = .ok (.aload_n 0, 1) := by decide +kernel
theorem dX3_goSecond_36 : decode cX3_goSecond 36 = .ok (.iload_n 2, 1) := by decide +kernel
theorem dX3_goSecond_37 : decode cX3_goSecond 37 = .ok (.iload_n 1, 1) := by decide +kernel
theorem dX3_goSecond_38 : decode cX3_goSecond 38 = .ok (.invokevirtual 95, 3) := by decide +kernel
theorem dX3_goSecond_41 : decode cX3_goSecond 41 = .ok (.aload_n 0, 1) := by decide +kernel
theorem dX3_goSecond_42 : decode cX3_goSecond 42 = .ok (.getfield 15, 3) := by decide +kernel
theorem dX3_goSecond_45 : decode cX3_goSecond 45 = .ok (.invokestatic 81, 3) := by decide +kernel
theorem dX3_goSecond_48 : decode cX3_goSecond 48 = .ok (.invokevirtual 98, 3) := by decide +kernel
theorem dX3_goSecond_51 : decode cX3_goSecond 51 = .ok (.iastore, 1) := by decide +kernel
theorem dX3_goSecond_52 : decode cX3_goSecond 52 = .ok (.iinc 2 1, 3) := by decide +kernel
theorem dX3_goSecond_55 : decode cX3_goSecond 55 = .ok (.goto (-48), 3) := by decide +kernel
theorem dX3_goSecond_58 : decode cX3_goSecond 58 = .ok (.aload_n 0, 1) := by decide +kernel
theorem dX3_goSecond_59 : decode cX3_goSecond 59 = .ok (.dup, 1) := by decide +kernel
theorem dX3_goSecond_60 : decode cX3_goSecond 60 = .ok (.getfield 49, 3) := by decide +kernel
theorem dX3_goSecond_63 : decode cX3_goSecond 63 = .ok (.iconst 1, 1) := by decide +kernel
theorem dX3_goSecond_64 : decode cX3_goSecond 64 = .ok (.iadd, 1) := by decide +kernel
theorem dX3_goSecond_65 : decode cX3_goSecond 65 = .ok (.putfield 49, 3) := by decide +kernel
theorem dX3_goSecond_68 : decode cX3_goSecond 68 = .ok (.iconst 0, 1) := by decide +kernel
theorem dX3_goSecond_69 : decode cX3_goSecond 69 = .ok (.istore_n 2, 1) := by decide +kernel
theorem dX3_goSecond_70 : decode cX3_goSecond 70 = .ok (.iload_n 2, 1) := by decide +kernel
theorem dX3_goSecond_71 : decode cX3_goSecond 71 = .ok (.aload_n 0, 1) := by decide +kernel
theorem dX3_goSecond_72 : decode cX3_goSecond 72 = .ok (.getfield 52, 3) := by decide +kernel
theorem dX3_goSecond_75 : decode cX3_goSecond 75 = .ok (.if_icmp .ge 66, 3) := by decide +kernel
theorem dX3_goSecond_78 : decode cX3_goSecond 78 = .ok (.aload_n 0, 1) := by decide +kernel
theorem dX3_goSecond_79 : decode cX3_goSecond 79 = .ok (.getfield 37, 3) := by decide +kernel
theorem dX3_goSecond_82 : decode cX3_goSecond 82 = .ok (.iload_n 2, 1) := by decide +kernel
theorem dX3_goSecond_83 : decode cX3_goSecond 83 = .ok (.dup2, 1) := by decide +kernel
theorem dX3_goSecond_84 : decode cX3_goSecond 84 = .ok (.iaload, 1) := by decide +kernel
theorem dX3_goSecond_85 : decode cX3_goSecond 85 = .ok (.aload_n 0, 1) := by decide +kernel
theorem dX3_goSecond_86 : decode cX3_goSecond 86 = .ok (.getfield 46, 3) := by decide +kernel
theorem dX3_goSecond_89 : decode cX3_goSecond 89 = .ok (.iload_n 2, 1) := by decide +kernel
theorem dX3_goSecond_90 : decode cX3_goSecond 90 = .ok (.iaload, 1) := by decide +kernel
theorem dX3_goSecond_91 : decode cX3_goSecond 91 = .ok (.iadd, 1) := by decide +kernel
theorem dX3_goSecond_92 : decode cX3_goSecond 92 = .ok (.iastore, 1) := by decide +kernel
theorem dX3_goSecond_93 : decode cX3_goSecond 93 = .ok (.aload_n 0, 1) := by decide +kernel
theorem dX3_goSecond_94 : decode cX3_goSecond 94 = .ok (.getfield 43, 3) := by decide +kernel
theorem dX3_goSecond_97 : decode cX3_goSecond 97 = .ok (.iload_n 2, 1) := by decide +kernel
theorem dX3_goSecond_98 : decode cX3_goSecond 98 = .ok (.iaload, 1) := by decide +kernel
theorem dX3_goSecond_99 : decode cX3_goSecond 99 = .ok (.ifCond .ge 36, 3) := by decide +kernel
theorem dX3_goSecond_102 : decode cX3_goSecond 102 = .ok (.aload_n 0, 1) := by decide +kernel
theorem dX3_goSecond_103 : decode cX3_goSecond 103 = .ok (.getfield 37, 3) := by decide +kernel
theorem dX3_goSecond_106 : decode cX3_goSecond 106 = .ok (.iload_n 2, 1) := by decide +kernel
theorem dX3_goSecond_107 : decode cX3_goSecond 107 = .ok (.iaload, 1) := by decide +kernel
theorem dX3_goSecond_108 : decode cX3_goSecond 108 = .ok (.aload_n 0, 1) := by decide +kernel
theorem dX3_goSecond_109 : decode cX3_goSecond 109 = .ok (.getfield 9, 3) := by decide +kernel
theorem dX3_goSecond_112 : decode cX3_goSecond 112 = .ok (.if_icmp .lt 23, 3) := by decide +kernel
theorem dX3_goSecond_115 : decode cX3_goSecond 115 = .ok (.aload_n 0, 1) := by decide +kernel
theorem dX3_goSecond_116 : decode cX3_goSecond 116 = .ok (.getfield 43, 3) := by decide +kernel
theorem dX3_goSecond_119 : decode cX3_goSecond 119 = .ok (.iload_n 2, 1) := by decide +kernel
theorem dX3_goSecond_120 : decode cX3_goSecond 120 = .ok (.aload_n 0, 1) := by decide +kernel
theorem dX3_goSecond_121 : decode cX3_goSecond 121 = .ok (.getfield 49, 3) := by decide +kernel
theorem dX3_goSecond_124 : decode cX3_goSecond 124 = .ok (.iastore, 1) := by decide +kernel
theorem dX3_goSecond_125 : decode cX3_goSecond 125 = .ok (.aload_n 0, 1) := by decide +kernel
theorem dX3_goSecond_126 : decode cX3_goSecond 126 = .ok (.dup, 1) := by decide +kernel
theorem dX3_goSecond_127 : decode cX3_goSecond 127 = .ok (.getfield 55, 3) := by decide +kernel
theorem dX3_goSecond_130 : decode cX3_goSecond 130 = .ok (.iconst 1, 1) := by decide +kernel
theorem dX3_goSecond_131 : decode cX3_goSecond 131 = .ok (.iadd, 1) := by decide +kernel
theorem dX3_goSecond_132 : decode cX3_goSecond 132 = .ok (.putfield 55, 3) := by decide +kernel
theorem dX3_goSecond_135 : decode cX3_goSecond 135 = .ok (.iinc 2 1, 3) := by decide +kernel
theorem dX3_goSecond_138 : decode cX3_goSecond 138 = .ok (.goto (-68), 3) := by decide +kernel
theorem dX3_goSecond_141 : decode cX3_goSecond 141 = .ok (.return_, 1) := by decide +kernel
theorem dX3_strideOf_0 : decode cX3_strideOf 0 = .ok (.iload_n 2, 1) := by decide +kernel
theorem dX3_strideOf_1 : decode cX3_strideOf 1 = .ok (.iconst 4, 1) := by decide +kernel
theorem dX3_strideOf_2 : decode cX3_strideOf 2 = .ok (.isub, 1) := by decide +kernel
theorem dX3_strideOf_3 : decode cX3_strideOf 3 = .ok (.istore_n 3, 1) := by decide +kernel
theorem dX3_strideOf_4 : decode cX3_strideOf 4 = .ok (.iload_n 3, 1) := by decide +kernel
theorem dX3_strideOf_5 : decode cX3_strideOf 5 = .ok (.aload_n 0, 1) := by decide +kernel
theorem dX3_strideOf_6 : decode cX3_strideOf 6 = .ok (.getfield 28, 3) := by decide +kernel
theorem dX3_strideOf_9 : decode cX3_strideOf 9 = .ok (.iload_n 1, 1) := by decide +kernel
theorem dX3_strideOf_10 : decode cX3_strideOf 10 = .ok (.iaload, 1) := by decide +kernel
theorem dX3_strideOf_11 : decode cX3_strideOf 11 = .ok (.if_icmp .le 12, 3) := by decide +kernel
theorem dX3_strideOf_14 : decode cX3_strideOf 14 = .ok (.iconst 4, 1) := by decide +kernel
theorem dX3_strideOf_15 : decode cX3_strideOf 15 = .ok (.aload_n 0, 1) := by decide +kernel
theorem dX3_strideOf_16 : decode cX3_strideOf 16 = .ok (.getfield 15, 3) := by decide +kernel
theorem dX3_strideOf_19 : decode cX3_strideOf 19 = .ok (.invokestatic 81, 3) := by decide +kernel
theorem dX3_strideOf_22 : decode cX3_strideOf 22 = .ok (.ireturn, 1) := by decide +kernel
theorem dX3_strideOf_23 : decode cX3_strideOf 23 = .ok (.iload_n 3, 1) := by decide +kernel
theorem dX3_strideOf_24 : decode cX3_strideOf 24 = .ok (.ifCond .le 16, 3) := by decide +kernel
theorem dX3_strideOf_27 : decode cX3_strideOf 27 = .ok (.aload_n 0, 1) := by decide +kernel
theorem dX3_strideOf_28 : decode cX3_strideOf 28 = .ok (.getfield 28, 3) := by decide +kernel
theorem dX3_strideOf_31 : decode cX3_strideOf 31 = .ok (.iload_n 1, 1) := by decide +kernel
theorem dX3_strideOf_32 : decode cX3_strideOf 32 = .ok (.dup2, 1) := by decide +kernel
theorem dX3_strideOf_33 : decode cX3_strideOf 33 = .ok (.iaload, 1) := by decide +kernel
theorem dX3_strideOf_34 : decode cX3_strideOf 34 = .ok (.iload_n 3, 1) := by decide +kernel
theorem dX3_strideOf_35 : decode cX3_strideOf 35 = .ok (.isub, 1) := by decide +kernel
theorem dX3_strideOf_36 : decode cX3_strideOf 36 = .ok (.iastore, 1) := by decide +kernel
theorem dX3_strideOf_37 : decode cX3_strideOf 37 = .ok (.goto 27, 3) := by decide +kernel
theorem dX3_strideOf_40 : decode cX3_strideOf 40 = .ok (.iload_n 3, 1) := by decide +kernel
theorem dX3_strideOf_41 : decode cX3_strideOf 41 = .ok (.ifCond .ge 23, 3) := by decide +kernel
theorem dX3_strideOf_44 : decode cX3_strideOf 44 = .ok (.aload_n 0, 1) := by decide +kernel
theorem dX3_strideOf_45 : decode cX3_strideOf 45 = .ok (.getfield 28, 3) := by decide +kernel
theorem dX3_strideOf_48 : decode cX3_strideOf 48 = .ok (.iload_n 1, 1) := by decide +kernel
theorem dX3_strideOf_49 : decode cX3_strideOf 49 = .ok (.aload_n 0, 1) := by decide +kernel
theorem dX3_strideOf_50 : decode cX3_strideOf 50 = .ok (.getfield 28, 3) := by decide +kernel
theorem dX3_strideOf_53 : decode cX3_strideOf 53 = .ok (.iload_n 1, 1) := by decide +kernel
theorem dX3_strideOf_54 : decode cX3_strideOf 54 = .ok (.iaload, 1) := by decide +kernel
theorem dX3_strideOf_55 : decode cX3_strideOf 55 = .ok (.iconst 1, 1) := by decide +kernel
theorem dX3_strideOf_56 : decode cX3_strideOf 56 = .ok (.iadd, 1) := by decide +kernel
theorem dX3_strideOf_57 : decode cX3_strideOf 57 = .ok (.sipush 999, 3) := by decide +kernel
theorem dX3_strideOf_60 : decode cX3_strideOf 60 = .ok (.invokestatic 76, 3) := by decide +kernel
theorem dX3_strideOf_63 : decode cX3_strideOf 63 = .ok (.iastore, 1) := by decide +kernel
theorem dX3_strideOf_64 : decode cX3_strideOf 64 = .ok (.iload_n 2, 1) := by decide +kernel
theorem dX3_strideOf_65 : decode cX3_strideOf 65 = .ok (.ireturn, 1) := by decide +kernel
theorem dX3_isAhead_0 : decode cX3_isAhead 0 = .ok (.aload_n 0, 1) := by decide +kernel
theorem dX3_isAhead_1 : decode cX3_isAhead 1 = .ok (.getfield 43, 3) := by decide +kernel
theorem dX3_isAhead_4 : decode cX3_isAhead 4 = .ok (.iload_n 1, 1) := by decide +kernel
theorem dX3_isAhead_5 : decode cX3_isAhead 5 = .ok (.iaload, 1) := by decide +kernel
theorem dX3_isAhead_6 : decode cX3_isAhead 6 = .ok (.ifCond .lt 7, 3) := by decide +kernel
theorem dX3_isAhead_9 : decode cX3_isAhead 9 = .ok (.iconst 1, 1) := by decide +kernel
theorem dX3_isAhead_10 : decode cX3_isAhead 10 = .ok (.goto 4, 3) := by decide +kernel
theorem dX3_isAhead_13 : decode cX3_isAhead 13 = .ok (.iconst 0, 1) := by decide +kernel
theorem dX3_isAhead_14 : decode cX3_isAhead 14 = .ok (.istore_n 3, 1) := by decide +kernel
theorem dX3_isAhead_15 : decode cX3_isAhead 15 = .ok (.iload_n 3, 1) := by decide +kernel
theorem dX3_isAhead_16 : decode cX3_isAhead 16 = .ok (.aload_n 0, 1) := by decide +kernel
theorem dX3_isAhead_17 : decode cX3_isAhead 17 = .ok (.getfield 43, 3) := by decide +kernel
theorem dX3_isAhead_20 : decode cX3_isAhead 20 = .ok (.iload_n 2, 1) := by decide +kernel
theorem dX3_isAhead_21 : decode cX3_isAhead 21 = .ok (.iaload, 1) := by decide +kernel
theorem dX3_isAhead_22 : decode cX3_isAhead 22 = .ok (.ifCond .lt 7, 3) := by decide +kernel
theorem dX3_isAhead_25 : decode cX3_isAhead 25 = .ok (.iconst 1, 1) := by decide +kernel
theorem dX3_isAhead_26 : decode cX3_isAhead 26 = .ok (.goto 4, 3) := by decide +kernel
theorem dX3_isAhead_29 : decode cX3_isAhead 29 = .ok (.iconst 0, 1) := by decide +kernel
theorem dX3_isAhead_30 : decode cX3_isAhead 30 = .ok (.if_icmp .eq 5, 3) := by decide +kernel
theorem dX3_isAhead_33 : decode cX3_isAhead 33 = .ok (.iload_n 3, 1) := by decide +kernel
theorem dX3_isAhead_34 : decode cX3_isAhead 34 = .ok (.ireturn, 1) := by decide +kernel
theorem dX3_isAhead_35 : decode cX3_isAhead 35 = .ok (.aload_n 0, 1) := by decide +kernel
theorem dX3_isAhead_36 : decode cX3_isAhead 36 = .ok (.getfield 43, 3) := by decide +kernel
theorem dX3_isAhead_39 : decode cX3_isAhead 39 = .ok (.iload_n 1, 1) := by decide +kernel
theorem dX3_isAhead_40 : decode cX3_isAhead 40 = .ok (.iaload, 1) := by decide +kernel
theorem dX3_isAhead_41 : decode cX3_isAhead 41 = .ok (.aload_n 0, 1) := by decide +kernel
theorem dX3_isAhead_42 : decode cX3_isAhead 42 = .ok (.getfield 43, 3) := by decide +kernel
theorem dX3_isAhead_45 : decode cX3_isAhead 45 = .ok (.iload_n 2, 1) := by decide +kernel
theorem dX3_isAhead_46 : decode cX3_isAhead 46 = .ok (.iaload, 1) := by decide +kernel
theorem dX3_isAhead_47 : decode cX3_isAhead 47 = .ok (.if_icmp .eq 24, 3) := by decide +kernel
theorem dX3_isAhead_50 : decode cX3_isAhead 50 = .ok (.aload_n 0, 1) := by decide +kernel
theorem dX3_isAhead_51 : decode cX3_isAhead 51 = .ok (.getfield 43, 3) := by decide +kernel
theorem dX3_isAhead_54 : decode cX3_isAhead 54 = .ok (.iload_n 1, 1) := by decide +kernel
theorem dX3_isAhead_55 : decode cX3_isAhead 55 = .ok (.iaload, 1) := by decide +kernel
theorem dX3_isAhead_56 : decode cX3_isAhead 56 = .ok (.aload_n 0, 1) := by decide +kernel
theorem dX3_isAhead_57 : decode cX3_isAhead 57 = .ok (.getfield 43, 3) := by decide +kernel
theorem dX3_isAhead_60 : decode cX3_isAhead 60 = .ok (.iload_n 2, 1) := by decide +kernel
theorem dX3_isAhead_61 : decode cX3_isAhead 61 = .ok (.iaload, 1) := by decide +kernel
theorem dX3_isAhead_62 : decode cX3_isAhead 62 = .ok (.if_icmp .ge 7, 3) := by decide +kernel
theorem dX3_isAhead_65 : decode cX3_isAhead 65 = .ok (.iconst 1, 1) := by decide +kernel
theorem dX3_isAhead_66 : decode cX3_isAhead 66 = .ok (.goto 4, 3) := by decide +kernel
theorem dX3_isAhead_69 : decode cX3_isAhead 69 = .ok (.iconst 0, 1) := by decide +kernel
theorem dX3_isAhead_70 : decode cX3_isAhead 70 = .ok (.ireturn, 1) := by decide +kernel
theorem dX3_isAhead_71 : decode cX3_isAhead 71 = .ok (.aload_n 0, 1) := by decide +kernel
theorem dX3_isAhead_72 : decode cX3_isAhead 72 = .ok (.getfield 37, 3) := by decide +kernel
theorem dX3_isAhead_75 : decode cX3_isAhead 75 = .ok (.iload_n 1, 1) := by decide +kernel
theorem dX3_isAhead_76 : decode cX3_isAhead 76 = .ok (.iaload, 1) := by decide +kernel
theorem dX3_isAhead_77 : decode cX3_isAhead 77 = .ok (.aload_n 0, 1) := by decide +kernel
theorem dX3_isAhead_78 : decode cX3_isAhead 78 = .ok (.getfield 37, 3) := by decide +kernel
theorem dX3_isAhead_81 : decode cX3_isAhead 81 = .ok (.iload_n 2, 1) := by decide +kernel
theorem dX3_isAhead_82 : decode cX3_isAhead 82 = .ok (.iaload, 1) := by decide +kernel
theorem dX3_isAhead_83 : decode cX3_isAhead 83 = .ok (.if_icmp .eq 24, 3) := by decide +kernel
theorem dX3_isAhead_86 : decode cX3_isAhead 86 = .ok (.aload_n 0, 1) := by decide +kernel
theorem dX3_isAhead_87 : decode cX3_isAhead 87 = .ok (.getfield 37, 3) := by decide +kernel
theorem dX3_isAhead_90 : decode cX3_isAhead 90 = .ok (.iload_n 1, 1) := by decide +kernel
theorem dX3_isAhead_91 : decode cX3_isAhead 91 = .ok (.iaload, 1) := by decide +kernel
theorem dX3_isAhead_92 : decode cX3_isAhead 92 = .ok (.aload_n 0, 1) := by decide +kernel
theorem dX3_isAhead_93 : decode cX3_isAhead 93 = .ok (.getfield 37, 3) := by decide +kernel
theorem dX3_isAhead_96 : decode cX3_isAhead 96 = .ok (.iload_n 2, 1) := by decide +kernel
theorem dX3_isAhead_97 : decode cX3_isAhead 97 = .ok (.iaload, 1) := by decide +kernel
theorem dX3_isAhead_98 : decode cX3_isAhead 98 = .ok (.if_icmp .le 7, 3) := by decide +kernel
theorem dX3_isAhead_101 : decode cX3_isAhead 101 = .ok (.iconst 1, 1) := by decide +kernel
theorem dX3_isAhead_102 : decode cX3_isAhead 102 = .ok (.goto 4, 3) := by decide +kernel
theorem dX3_isAhead_105 : decode cX3_isAhead 105 = .ok (.iconst 0, 1) := by decide +kernel
theorem dX3_isAhead_106 : decode cX3_isAhead 106 = .ok (.ireturn, 1) := by decide +kernel
theorem dX3_isAhead_107 : decode cX3_isAhead 107 = .ok (.iload_n 1, 1) := by decide +kernel
theorem dX3_isAhead_108 : decode cX3_isAhead 108 = .ok (.iload_n 2, 1) := by decide +kernel
theorem dX3_isAhead_109 : decode cX3_isAhead 109 = .ok (.if_icmp .ge 7, 3) := by decide +kernel
theorem dX3_isAhead_112 : decode cX3_isAhead 112 = .ok (.iconst 1, 1) := by decide +kernel
theorem dX3_isAhead_113 : decode cX3_isAhead 113 = .ok (.goto 4, 3) := by decide +kernel
theorem dX3_isAhead_116 : decode cX3_isAhead 116 = .ok (.iconst 0, 1) := by decide +kernel
theorem dX3_isAhead_117 : decode cX3_isAhead 117 = .ok (.ireturn, 1) := by decide +kernel
set_option maxRecDepth 20000 in
theorem ggX3_placeOf_X3_has : GoodIn wsX3_placeOf wsX3_has := goodIn_r _ [6, 1, 13, 14, 15, 16, 17, 18, 19, 20, 21, 22, 23, 24, 25, 26, 27] rfl (by decide +kernel)
set_option maxRecDepth 20000 in
theorem gX3_placeOf_X3_has : GoodIn wsX3_placeOf (wsV RX3 58 RX3 yX3_has wsX3_has) := goodIn_app (goodIn_of _ (by decide +kernel)) ggX3_placeOf_X3_has
set_option maxRecDepth 20000 in
theorem ggX3_placeOf_X3_isAhead : GoodIn wsX3_placeOf wsX3_isAhead := goodIn_r _ [10, 11, 12, 13, 14, 15, 16, 17, 18, 19, 20, 21, 22, 23, 24, 25, 26, 27] rfl (by decide +kernel)
set_option maxRecDepth 20000 in
theorem gX3_placeOf_X3_isAhead : GoodIn wsX3_placeOf (wsV RX3 101 RX3 yX3_isAhead wsX3_isAhead) := goodIn_app (goodIn_of _ (by decide +kernel)) ggX3_placeOf_X3_isAhead
theorem dX3_placeOf_0 : decode cX3_placeOf 0 = .ok (.iconst 0, 1) := by decide +kernel
theorem dX3_placeOf_1 : decode cX3_placeOf 1 = .ok (.istore_n 2, 1) := by decide +kernel
theorem dX3_placeOf_2 : decode cX3_placeOf 2 = .ok (.aload_n 0, 1) := by decide +kernel
theorem dX3_placeOf_3 : decode cX3_placeOf 3 = .ok (.iload_n 1, 1) := by decide +kernel
theorem dX3_placeOf_4 : decode cX3_placeOf 4 = .ok (.invokevirtual 58, 3) := by decide +kernel
theorem dX3_placeOf_7 : decode cX3_placeOf 7 = .ok (.ifCond .eq 36, 3) := by decide +kernel
theorem dX3_placeOf_10 : decode cX3_placeOf 10 = .ok (.iconst 0, 1) := by decide +kernel
theorem dX3_placeOf_11 : decode cX3_placeOf 11 = .ok (.istore_n 3, 1) := by decide +kernel
theorem dX3_placeOf_12 : decode cX3_placeOf 12 = .ok (.iload_n 3, 1) := by decide +kernel
theorem dX3_placeOf_13 : decode cX3_placeOf 13 = .ok (.aload_n 0, 1) := by decide +kernel
theorem dX3_placeOf_14 : decode cX3_placeOf 14 = .ok (.getfield 52, 3) := by decide +kernel
theorem dX3_placeOf_17 : decode cX3_placeOf 17 = .ok (.if_icmp .ge 26, 3) := by decide +kernel
theorem dX3_placeOf_20 : decode cX3_placeOf 20 = .ok (.iload_n 3, 1) := by decide +kernel
theorem dX3_placeOf_21 : decode cX3_placeOf 21 = .ok (.iload_n 1, 1) := by decide +kernel
theorem dX3_placeOf_22 : decode cX3_placeOf 22 = .ok (.if_icmp .eq 15, 3) := by decide +kernel
theorem dX3_placeOf_25 : decode cX3_placeOf 25 = .ok (.aload_n 0, 1) := by decide +kernel
theorem dX3_placeOf_26 : decode cX3_placeOf 26 = .ok (.iload_n 3, 1) := by decide +kernel
theorem dX3_placeOf_27 : decode cX3_placeOf 27 = .ok (.iload_n 1, 1) := by decide +kernel
theorem dX3_placeOf_28 : decode cX3_placeOf 28 = .ok (.invokevirtual 101, 3) := by decide +kernel
theorem dX3_placeOf_31 : decode cX3_placeOf 31 = .ok (.ifCond .eq 6, 3) := by decide +kernel
theorem dX3_placeOf_34 : decode cX3_placeOf 34 = .ok (.iinc 2 1, 3) := by decide +kernel
theorem dX3_placeOf_37 : decode cX3_placeOf 37 = .ok (.iinc 3 1, 3) := by decide +kernel
theorem dX3_placeOf_40 : decode cX3_placeOf 40 = .ok (.goto (-28), 3) := by decide +kernel
theorem dX3_placeOf_43 : decode cX3_placeOf 43 = .ok (.iload_n 2, 1) := by decide +kernel
theorem dX3_placeOf_44 : decode cX3_placeOf 44 = .ok (.ireturn, 1) := by decide +kernel
set_option maxRecDepth 20000 in
theorem ggX3_whoseAt_X3_placeOf : GoodIn wsX3_whoseAt wsX3_placeOf := goodIn_r _ [6, 1, 7, 8, 9, 5, 10, 11, 12, 13, 14, 15, 16, 17, 18, 19, 20, 21, 22, 23, 24, 25, 26, 27, 28, 29, 30, 31] rfl (by decide +kernel)
set_option maxRecDepth 20000 in
theorem gX3_whoseAt_X3_placeOf : GoodIn wsX3_whoseAt (wsV RX3 105 RX3 yX3_placeOf wsX3_placeOf) := goodIn_app (goodIn_of _ (by decide +kernel)) ggX3_whoseAt_X3_placeOf
theorem dX3_whoseAt_0 : decode cX3_whoseAt 0 = .ok (.iconst 0, 1) := by decide +kernel
theorem dX3_whoseAt_1 : decode cX3_whoseAt 1 = .ok (.istore_n 2, 1) := by decide +kernel
theorem dX3_whoseAt_2 : decode cX3_whoseAt 2 = .ok (.iload_n 2, 1) := by decide +kernel
theorem dX3_whoseAt_3 : decode cX3_whoseAt 3 = .ok (.aload_n 0, 1) := by decide +kernel
theorem dX3_whoseAt_4 : decode cX3_whoseAt 4 = .ok (.getfield 52, 3) := by decide +kernel
theorem dX3_whoseAt_7 : decode cX3_whoseAt 7 = .ok (.if_icmp .ge 20, 3) := by decide +kernel
theorem dX3_whoseAt_10 : decode cX3_whoseAt 10 = .ok (.aload_n 0, 1) := by decide +kernel
theorem dX3_whoseAt_11 : decode cX3_whoseAt 11 = .ok (.iload_n 2, 1) := by decide +kernel
theorem dX3_whoseAt_12 : decode cX3_whoseAt 12 = .ok (.invokevirtual 105, 3) := by decide +kernel
theorem dX3_whoseAt_15 : decode cX3_whoseAt 15 = .ok (.iload_n 1, 1) := by decide +kernel
theorem dX3_whoseAt_16 : decode cX3_whoseAt 16 = .ok (.if_icmp .ne 5, 3) := by decide +kernel
theorem dX3_whoseAt_19 : decode cX3_whoseAt 19 = .ok (.iload_n 2, 1) := by decide +kernel
theorem dX3_whoseAt_20 : decode cX3_whoseAt 20 = .ok (.ireturn, 1) := by decide +kernel
theorem dX3_whoseAt_21 : decode cX3_whoseAt 21 = .ok (.iinc 2 1, 3) := by decide +kernel
theorem dX3_whoseAt_24 : decode cX3_whoseAt 24 = .ok (.goto (-22), 3) := by decide +kernel
theorem dX3_whoseAt_27 : decode cX3_whoseAt 27 = .ok (.iconst (-1), 1) := by decide +kernel
theorem dX3_whoseAt_28 : decode cX3_whoseAt 28 = .ok (.ireturn, 1) := by decide +kernel
set_option maxRecDepth 20000 in
theorem ggX3_prizeOwner_X3_whoseAt : GoodIn wsX3_prizeOwner wsX3_whoseAt := goodIn_r _ [6, 1, 7, 8, 9, 5, 10, 11, 12, 13, 14, 15, 16, 17, 18, 19, 20, 21, 22, 23, 24, 25, 26, 27, 28, 29, 30, 31, 32, 33, 34, 35] rfl (by decide +kernel)
set_option maxRecDepth 20000 in
theorem gX3_prizeOwner_X3_whoseAt : GoodIn wsX3_prizeOwner (wsV RX3 108 RX3 yX3_whoseAt wsX3_whoseAt) := goodIn_app (goodIn_of _ (by decide +kernel)) ggX3_prizeOwner_X3_whoseAt
theorem dX3_prizeOwner_0 : decode cX3_prizeOwner 0 = .ok (.iload_n 1, 1) := by decide +kernel
theorem dX3_prizeOwner_1 : decode cX3_prizeOwner 1 = .ok (.tableswitch 50 0 2 #[27, 33, 39], 27) := by decide +kernel
theorem dX3_prizeOwner_28 : decode cX3_prizeOwner 28 = .ok (.aload_n 0, 1) := by decide +kernel
theorem dX3_prizeOwner_29 : decode cX3_prizeOwner 29 = .ok (.iconst 0, 1) := by decide +kernel
theorem dX3_prizeOwner_30 : decode cX3_prizeOwner 30 = .ok (.invokevirtual 108, 3) := by decide +kernel
theorem dX3_prizeOwner_33 : decode cX3_prizeOwner 33 = .ok (.ireturn, 1) := by decide +kernel
theorem dX3_prizeOwner_34 : decode cX3_prizeOwner 34 = .ok (.aload_n 0, 1) := by decide +kernel
theorem dX3_prizeOwner_35 : decode cX3_prizeOwner 35 = .ok (.iconst 1, 1) := by decide +kernel
theorem dX3_prizeOwner_36 : decode cX3_prizeOwner 36 = .ok (.invokevirtual 108, 3) := by decide +kernel
theorem dX3_prizeOwner_39 : decode cX3_prizeOwner 39 = .ok (.ireturn, 1) := by decide +kernel
theorem dX3_prizeOwner_40 : decode cX3_prizeOwner 40 = .ok (.aload_n 0, 1) := by decide +kernel
theorem dX3_prizeOwner_41 : decode cX3_prizeOwner 41 = .ok (.aload_n 0, 1) := by decide +kernel
theorem dX3_prizeOwner_42 : decode cX3_prizeOwner 42 = .ok (.getfield 52, 3) := by decide +kernel
theorem dX3_prizeOwner_45 : decode cX3_prizeOwner 45 = .ok (.iconst 2, 1) := by decide +kernel
theorem dX3_prizeOwner_46 : decode cX3_prizeOwner 46 = .ok (.isub, 1) := by decide +kernel
theorem dX3_prizeOwner_47 : decode cX3_prizeOwner 47 = .ok (.invokevirtual 108, 3) := by decide +kernel
theorem dX3_prizeOwner_50 : decode cX3_prizeOwner 50 = .ok (.ireturn, 1) := by decide +kernel
theorem dX3_prizeOwner_51 : decode cX3_prizeOwner 51 = .ok (.aload_n 0, 1) := by decide +kernel
theorem dX3_prizeOwner_52 : decode cX3_prizeOwner 52 = .ok (.aload_n 0, 1) := by decide +kernel
theorem dX3_prizeOwner_53 : decode cX3_prizeOwner 53 = .ok (.getfield 52, 3) := by decide +kernel
theorem dX3_prizeOwner_56 : decode cX3_prizeOwner 56 = .ok (.iconst 1, 1) := by decide +kernel
theorem dX3_prizeOwner_57 : decode cX3_prizeOwner 57 = .ok (.isub, 1) := by decide +kernel
theorem dX3_prizeOwner_58 : decode cX3_prizeOwner 58 = .ok (.iconst 2, 1) := by decide +kernel
theorem dX3_prizeOwner_59 : decode cX3_prizeOwner 59 = .ok (.idiv, 1) := by decide +kernel
theorem dX3_prizeOwner_60 : decode cX3_prizeOwner 60 = .ok (.invokevirtual 108, 3) := by decide +kernel
theorem dX3_prizeOwner_63 : decode cX3_prizeOwner 63 = .ok (.ireturn, 1) := by decide +kernel
set_option maxRecDepth 20000 in
theorem ggX3_raceOwner_X3_lineUp : GoodIn wsX3_raceOwner wsX3_lineUp := goodIn_r _ [6, 7, 8, 9, 10, 11, 12, 87, 88, 89, 90, 91, 92, 93, 94, 95, 96, 97, 98, 99, 100, 101] rfl (by decide +kernel)
set_option maxRecDepth 20000 in
theorem gX3_raceOwner_X3_lineUp : GoodIn wsX3_raceOwner (wsV RX3 111 RX3 yX3_lineUp wsX3_lineUp) := goodIn_app (goodIn_of _ (by decide +kernel)) ggX3_raceOwner_X3_lineUp
set_option maxRecDepth 20000 in
theorem ggX3_raceOwner_X3_goOn : GoodIn wsX3_raceOwner wsX3_goOn := goodIn_r _ [16, 17, 18, 19, 5, 20, 12, 7, 21, 22, 23, 24, 25, 10, 26, 27, 28, 29, 30, 11, 8, 31, 32, 33, 34, 35, 36, 37, 38, 39, 40, 41, 42, 43, 44, 45, 46, 47, 48, 49, 50, 51, 52, 53, 54, 55, 56, 57, 58, 59, 60, 61, 62, 63, 64, 65, 66, 67, 68, 69, 70, 87, 88, 89, 90, 91, 92, 93, 94, 95, 96, 97, 98, 99, 100, 101] rfl (by decide +kernel)
set_option maxRecDepth 20000 in
theorem gX3_raceOwner_X3_goOn : GoodIn wsX3_raceOwner (wsV RX3 114 RX3 yX3_goOn wsX3_goOn) := goodIn_app (goodIn_of _ (by decide +kernel)) ggX3_raceOwner_X3_goOn
set_option maxRecDepth 20000 in
theorem ggX3_raceOwner_X3_allHome : GoodIn wsX3_raceOwner wsX3_allHome := goodIn_r _ [20, 12, 7, 87, 88, 89, 90, 91, 92, 93, 94, 95, 96, 97, 98, 99, 100, 101] rfl (by decide +kernel)
set_option maxRecDepth 20000 in
theorem gX3_raceOwner_X3_allHome : GoodIn wsX3_raceOwner (wsV RX3 84 RX3 yX3_allHome wsX3_allHome) := goodIn_app (goodIn_of _ (by decide +kernel)) ggX3_raceOwner_X3_allHome
set_option maxRecDepth 20000 in
theorem ggX3_raceOwner_X3_prizeOwner : GoodIn wsX3_raceOwner wsX3_prizeOwner := goodIn_r _ [74, 7, 75, 76, 77, 5, 78, 79, 80, 81, 82, 46, 47, 48, 49, 83, 84, 85, 86, 10, 8, 87, 88, 89, 90, 91, 92, 93, 94, 95, 96, 97, 98, 99, 100, 101] rfl (by decide +kernel)
set_option maxRecDepth 20000 in
theorem gX3_raceOwner_X3_prizeOwner : GoodIn wsX3_raceOwner (wsV RX3 118 RX3 yX3_prizeOwner wsX3_prizeOwner) := goodIn_app (goodIn_of _ (by decide +kernel)) ggX3_raceOwner_X3_prizeOwner
theorem dX3_raceOwner_0 : decode cX3_raceOwner 0 = .ok (.aload_n 0, 1) := by decide +kernel
theorem dX3_raceOwner_1 : decode cX3_raceOwner 1 = .ok (.invokevirtual 111, 3) := by decide +kernel
theorem dX3_raceOwner_4 : decode cX3_raceOwner 4 = .ok (.aload_n 0, 1) := by decide +kernel
theorem dX3_raceOwner_5 : decode cX3_raceOwner 5 = .ok (.sipush 2000, 3) := by decide +kernel
theorem dX3_raceOwner_8 : decode cX3_raceOwner 8 = .ok (.invokevirtual 114, 3) := by decide +kernel
theorem dX3_raceOwner_11 : decode cX3_raceOwner 11 = .ok (.aload_n 0, 1) := by decide +kernel
theorem dX3_raceOwner_12 : decode cX3_raceOwner 12 = .ok (.invokevirtual 84, 3) := by decide +kernel
theorem dX3_raceOwner_15 : decode cX3_raceOwner 15 = .ok (.ifCond .eq 14, 3) := by decide +kernel
theorem dX3_raceOwner_18 : decode cX3_raceOwner 18 = .ok (.aload_n 0, 1) := by decide +kernel
theorem dX3_raceOwner_19 : decode cX3_raceOwner 19 = .ok (.aload_n 0, 1) := by decide +kernel
theorem dX3_raceOwner_20 : decode cX3_raceOwner 20 = .ok (.getfield 18, 3) := by decide +kernel
theorem dX3_raceOwner_23 : decode cX3_raceOwner 23 = .ok (.invokevirtual 118, 3) := by decide +kernel
theorem dX3_raceOwner_26 : decode cX3_raceOwner 26 = .ok (.goto 4, 3) := by decide +kernel
theorem dX3_raceOwner_29 : decode cX3_raceOwner 29 = .ok (.iconst (-1), 1) := by decide +kernel
theorem dX3_raceOwner_30 : decode cX3_raceOwner 30 = .ok (.ireturn, 1) := by decide +kernel
set_option maxRecDepth 20000 in
theorem ggX3_givePoints_X3_prizeOwner : GoodIn wsX3_givePoints wsX3_prizeOwner := goodIn_r _ [8, 2, 9, 10, 11, 7, 12, 13, 14, 15, 16, 17, 18, 19, 20, 21, 22, 23, 24, 25, 26, 27, 28, 29, 30, 31, 32, 33, 34, 35, 36, 37, 38, 39, 40, 41] rfl (by decide +kernel)
set_option maxRecDepth 20000 in
theorem gX3_givePoints_X3_prizeOwner : GoodIn wsX3_givePoints (wsV RX3 118 RX3 yX3_prizeOwner wsX3_prizeOwner) := goodIn_app (goodIn_of _ (by decide +kernel)) ggX3_givePoints_X3_prizeOwner
set_option maxRecDepth 20000 in
theorem ggX3_givePoints_X3_placeOf : GoodIn wsX3_givePoints wsX3_placeOf := goodIn_r _ [16, 2, 17, 18, 19, 7, 20, 21, 22, 23, 24, 25, 26, 27, 28, 29, 30, 31, 32, 33, 34, 35, 36, 37, 38, 39, 40, 41] rfl (by decide +kernel)
set_option maxRecDepth 20000 in
theorem gX3_givePoints_X3_placeOf : GoodIn wsX3_givePoints (wsV RX3 105 RX3 yX3_placeOf wsX3_placeOf) := goodIn_app (goodIn_of _ (by decide +kernel)) ggX3_givePoints_X3_placeOf
theorem dX3_givePoints_0 : decode cX3_givePoints 0 = .ok (.iconst 0, 1) := by decide +kernel
theorem dX3_givePoints_1 : decode cX3_givePoints 1 = .ok (.istore_n 1, 1) := by decide +kernel
theorem dX3_givePoints_2 : decode cX3_givePoints 2 = .ok (.aload_n 0, 1) := by decide +kernel
theorem dX3_givePoints_3 : decode cX3_givePoints 3 = .ok (.aload_n 0, 1) := by decide +kernel
theorem dX3_givePoints_4 : decode cX3_givePoints 4 = .ok (.getfield 18, 3) := by decide +kernel
theorem dX3_givePoints_7 : decode cX3_givePoints 7 = .ok (.invokevirtual 118, 3) := by decide +kernel
theorem dX3_givePoints_10 : decode cX3_givePoints 10 = .ok (.istore_n 2, 1) := by decide +kernel
theorem dX3_givePoints_11 : decode cX3_givePoints 11 = .ok (.iconst 0, 1) := by decide +kernel
theorem dX3_givePoints_12 : decode cX3_givePoints 12 = .ok (.istore_n 3, 1) := by decide +kernel
theorem dX3_givePoints_13 : decode cX3_givePoints 13 = .ok (.iload_n 3, 1) := by decide +kernel
theorem dX3_givePoints_14 : decode cX3_givePoints 14 = .ok (.aload_n 0, 1) := by decide +kernel
theorem dX3_givePoints_15 : decode cX3_givePoints 15 = .ok (.getfield 52, 3) := by decide +kernel
theorem dX3_givePoints_18 : decode cX3_givePoints 18 = .ok (.if_icmp .ge 51, 3) := by decide +kernel
theorem dX3_givePoints_21 : decode cX3_givePoints 21 = .ok (.aload_n 0, 1) := by decide +kernel
theorem dX3_givePoints_22 : decode cX3_givePoints 22 = .ok (.getfield 52, 3) := by decide +kernel
theorem dX3_givePoints_25 : decode cX3_givePoints 25 = .ok (.iconst 1, 1) := by decide +kernel
theorem dX3_givePoints_26 : decode cX3_givePoints 26 = .ok (.isub, 1) := by decide +kernel
theorem dX3_givePoints_27 : decode cX3_givePoints 27 = .ok (.aload_n 0, 1) := by decide +kernel
theorem dX3_givePoints_28 : decode cX3_givePoints 28 = .ok (.iload_n 3, 1) := by decide +kernel
theorem dX3_givePoints_29 : decode cX3_givePoints 29 = .ok (.invokevirtual 105, 3) := by decide +kernel
theorem dX3_givePoints_32 : decode cX3_givePoints 32 = .ok (.isub, 1) := by decide +kernel
theorem dX3_givePoints_33 : decode cX3_givePoints 33 = .ok (.iload_n 3, 1) := by decide +kernel
theorem dX3_givePoints_34 : decode cX3_givePoints 34 = .ok (.iload_n 2, 1) := by decide +kernel
theorem dX3_givePoints_35 : decode cX3_givePoints 35 = .ok (.if_icmp .ne 8, 3) := by decide +kernel
theorem dX3_givePoints_38 : decode cX3_givePoints 38 = .ok (.bipush 10, 2) := by decide +kernel
theorem dX3_givePoints_40 : decode cX3_givePoints 40 = .ok (.goto 4, 3) := by decide +kernel
theorem dX3_givePoints_43 : decode cX3_givePoints 43 = .ok (.iconst 0, 1) := by decide +kernel
theorem dX3_givePoints_44 : decode cX3_givePoints 44 = .ok (.iadd, 1) := by decide +kernel
theorem dX3_givePoints_45 : decode cX3_givePoints 45 = .ok (.istore 4, 2) := by decide +kernel
theorem dX3_givePoints_47 : decode cX3_givePoints 47 = .ok (.aload_n 0, 1) := by decide +kernel
theorem dX3_givePoints_48 : decode cX3_givePoints 48 = .ok (.getfield 40, 3) := by decide +kernel
theorem dX3_givePoints_51 : decode cX3_givePoints 51 = .ok (.iload_n 3, 1) := by decide +kernel
theorem dX3_givePoints_52 : decode cX3_givePoints 52 = .ok (.dup2, 1) := by decide +kernel
theorem dX3_givePoints_53 : decode cX3_givePoints 53 = .ok (.iaload, 1) := by decide +kernel
theorem dX3_givePoints_54 : decode cX3_givePoints 54 = .ok (.iload 4, 2) := by decide +kernel
theorem dX3_givePoints_56 : decode cX3_givePoints 56 = .ok (.iadd, 1) := by decide +kernel
theorem dX3_givePoints_57 : decode cX3_givePoints 57 = .ok (.iastore, 1) := by decide +kernel
theorem dX3_givePoints_58 : decode cX3_givePoints 58 = .ok (.iload_n 1, 1) := by decide +kernel
theorem dX3_givePoints_59 : decode cX3_givePoints 59 = .ok (.iload 4, 2) := by decide +kernel
theorem dX3_givePoints_61 : decode cX3_givePoints 61 = .ok (.iadd, 1) := by decide +kernel
theorem dX3_givePoints_62 : decode cX3_givePoints 62 = .ok (.istore_n 1, 1) := by decide +kernel
theorem dX3_givePoints_63 : decode cX3_givePoints 63 = .ok (.iinc 3 1, 3) := by decide +kernel
theorem dX3_givePoints_66 : decode cX3_givePoints 66 = .ok (.goto (-53), 3) := by decide +kernel
theorem dX3_givePoints_69 : decode cX3_givePoints 69 = .ok (.iload_n 1, 1) := by decide +kernel
theorem dX3_givePoints_70 : decode cX3_givePoints 70 = .ok (.ireturn, 1) := by decide +kernel
set_option maxRecDepth 20000 in
theorem ggX4_init_X3_init : GoodIn wsX4_init wsX3_init := goodIn_r _ [21, 22, 2, 3, 23, 24, 25, 16, 26, 27, 28, 29, 30, 31, 32, 33, 34, 45, 46, 47, 48, 49, 50, 51, 52, 53, 54, 55, 56, 57, 58, 59] rfl (by decide +kernel)
set_option maxRecDepth 20000 in
theorem gX4_init_X3_init_n9 : GoodIn wsX4_init (wsX3_init) := ggX4_init_X3_init
set_option maxRecDepth 20000 in
theorem ggX4_init_X2_init : GoodIn wsX4_init wsX2_init := goodIn_r _ [36, 37, 2, 3, 38, 39, 67, 68, 69, 70, 71, 72] rfl (by decide +kernel)
set_option maxRecDepth 20000 in
theorem gX4_init_X2_init_n24 : GoodIn wsX4_init (wsX2_init) := ggX4_init_X2_init
set_option maxRecDepth 20000 in
theorem ggX4_init_X1_init : GoodIn wsX4_init wsX1_init := goodIn_r _ [41, 42, 2, 3, 43, 44, 73, 74, 75] rfl (by decide +kernel)
set_option maxRecDepth 20000 in
theorem gX4_init_X1_init_n39 : GoodIn wsX4_init (wsX1_init) := ggX4_init_X1_init
theorem dX4_init_0 : decode cX4_init 0 = .ok (.aload_n 0, 1) := by decide +kernel
theorem dX4_init_1 : decode cX4_init 1 = .ok (.invokespecial 1, 3) := by decide +kernel
theorem dX4_init_4 : decode cX4_init 4 = .ok (.aload_n 0, 1) := by decide +kernel
theorem dX4_init_5 : decode cX4_init 5 = .ok (.new 7, 3) := by decide +kernel
theorem dX4_init_8 : decode cX4_init 8 = .ok (.dup, 1) := by decide +kernel
theorem dX4_init_9 : decode cX4_init 9 = .ok (.invokespecial 9, 3) := by decide +kernel
theorem dX4_init_12 : decode cX4_init 12 = .ok (.putfield 10, 3) := by decide +kernel
theorem dX4_init_15 : decode cX4_init 15 = .ok (.aload_n 0, 1) := by decide +kernel
theorem dX4_init_16 : decode cX4_init 16 = .ok (.new 7, 3) := by decide +kernel
theorem dX4_init_19 : decode cX4_init 19 = .ok (.dup, 1) := by decide +kernel
theorem dX4_init_20 : decode cX4_init 20 = .ok (.invokespecial 9, 3) := by decide +kernel
theorem dX4_init_23 : decode cX4_init 23 = .ok (.putfield 16, 3) := by decide +kernel
theorem dX4_init_26 : decode cX4_init 26 = .ok (.aload_n 0, 1) := by decide +kernel
theorem dX4_init_27 : decode cX4_init 27 = .ok (.new 7, 3) := by decide +kernel
theorem dX4_init_30 : decode cX4_init 30 = .ok (.dup, 1) := by decide +kernel
theorem dX4_init_31 : decode cX4_init 31 = .ok (.invokespecial 9, 3) := by decide +kernel
theorem dX4_init_34 : decode cX4_init 34 = .ok (.putfield 19, 3) := by decide +kernel
theorem dX4_init_37 : decode cX4_init 37 = .ok (.aload_n 0, 1) := by decide +kernel
theorem dX4_init_38 : decode cX4_init 38 = .ok (.new 22, 3) := by decide +kernel
theorem dX4_init_41 : decode cX4_init 41 = .ok (.dup, 1) := by decide +kernel
theorem dX4_init_42 : decode cX4_init 42 = .ok (.invokespecial 24, 3) := by decide +kernel
theorem dX4_init_45 : decode cX4_init 45 = .ok (.putfield 25, 3) := by decide +kernel
theorem dX4_init_48 : decode cX4_init 48 = .ok (.aload_n 0, 1) := by decide +kernel
theorem dX4_init_49 : decode cX4_init 49 = .ok (.iconst 4, 1) := by decide +kernel
theorem dX4_init_50 : decode cX4_init 50 = .ok (.anewarray 29, 3) := by decide +kernel
theorem dX4_init_53 : decode cX4_init 53 = .ok (.putfield 31, 3) := by decide +kernel
theorem dX4_init_56 : decode cX4_init 56 = .ok (.aload_n 0, 1) := by decide +kernel
theorem dX4_init_57 : decode cX4_init 57 = .ok (.bipush 7, 2) := by decide +kernel
theorem dX4_init_59 : decode cX4_init 59 = .ok (.newarray .int, 2) := by decide +kernel
theorem dX4_init_61 : decode cX4_init 61 = .ok (.putfield 35, 3) := by decide +kernel
theorem dX4_init_64 : decode cX4_init 64 = .ok (.iconst 0, 1) := by decide +kernel
theorem dX4_init_65 : decode cX4_init 65 = .ok (.istore_n 1, 1) := by decide +kernel
theorem dX4_init_66 : decode cX4_init 66 = .ok (.iload_n 1, 1) := by decide +kernel
theorem dX4_init_67 : decode cX4_init 67 = .ok (.iconst 4, 1) := by decide +kernel
theorem dX4_init_68 : decode cX4_init 68 = .ok (.if_icmp .ge 22, 3) := by decide +kernel
theorem dX4_init_71 : decode cX4_init 71 = .ok (.aload_n 0, 1) := by decide +kernel
theorem dX4_init_72 : decode cX4_init 72 = .ok (.getfield 31, 3) := by decide +kernel
theorem dX4_init_75 : decode cX4_init 75 = .ok (.iload_n 1, 1) := by decide +kernel
theorem dX4_init_76 : decode cX4_init 76 = .ok (.new 29, 3) := by decide +kernel
theorem dX4_init_79 : decode cX4_init 79 = .ok (.dup, 1) := by decide +kernel
theorem dX4_init_80 : decode cX4_init 80 = .ok (.invokespecial 39, 3) := by decide +kernel
theorem dX4_init_83 : decode cX4_init 83 = .ok (.aastore, 1) := by decide +kernel
theorem dX4_init_84 : decode cX4_init 84 = .ok (.iinc 1 1, 3) := by decide +kernel
theorem dX4_init_87 : decode cX4_init 87 = .ok (.goto (-21), 3) := by decide +kernel
theorem dX4_init_90 : decode cX4_init 90 = .ok (.return_, 1) := by decide +kernel
set_option maxRecDepth 20000 in
theorem ggX4_let_X4_letLength : GoodIn wsX4_let wsX4_letLength := goodIn_r _ [6, 1, 7, 8, 9, 10, 11, 12, 13, 5, 14, 15, 29, 30, 31, 32, 33, 34, 35, 36, 37, 38, 39, 40, 41, 42, 43, 44, 45, 46, 47, 48, 49, 50] rfl (by decide +kernel)
set_option maxRecDepth 20000 in
theorem gX4_let_X4_letLength : GoodIn wsX4_let (wsV RX4 40 RX4 yX4_letLength wsX4_letLength) := goodIn_app (goodIn_of _ (by decide +kernel)) ggX4_let_X4_letLength
set_option maxRecDepth 20000 in
theorem ggX4_let_X4_letLeast : GoodIn wsX4_let wsX4_letLeast := goodIn_r _ [19, 1, 7, 20, 11, 12, 13, 5, 14, 15, 29, 30, 31, 32, 33, 34, 35, 36, 37, 38, 39, 40, 41, 42, 43, 44, 45, 46, 47, 48, 49, 50] rfl (by decide +kernel)
set_option maxRecDepth 20000 in
theorem gX4_let_X4_letLeast : GoodIn wsX4_let (wsV RX4 44 RX4 yX4_letLeast wsX4_letLeast) := goodIn_app (goodIn_of _ (by decide +kernel)) ggX4_let_X4_letLeast
set_option maxRecDepth 20000 in
theorem ggX4_let_X4_letLaw : GoodIn wsX4_let wsX4_letLaw := goodIn_r _ [24, 1, 7, 25, 26, 27, 5, 28, 11, 12, 13, 14, 15, 29, 30, 31, 32, 33, 34, 35, 36, 37, 38, 39, 40, 41, 42, 43, 44, 45, 46, 47, 48, 49, 50] rfl (by decide +kernel)
set_option maxRecDepth 20000 in
theorem gX4_let_X4_letLaw : GoodIn wsX4_let (wsV RX4 47 RX4 yX4_letLaw wsX4_letLaw) := goodIn_app (goodIn_of _ (by decide +kernel)) ggX4_let_X4_letLaw
set_option maxRecDepth 20000 in
theorem ggX4_let_X4_found : GoodIn wsX4_let wsX4_found := goodIn_r _ [14, 1, 15, 29, 30, 31, 32, 33, 34, 35] rfl (by decide +kernel)
set_option maxRecDepth 20000 in
theorem gX4_let_X4_found : GoodIn wsX4_let (wsV RX4 51 RX4 yX4_found wsX4_found) := goodIn_app (goodIn_of _ (by decide +kernel)) ggX4_let_X4_found
theorem dX4_let_0 : decode cX4_let 0 = .ok (.iload_n 1, 1) := by decide +kernel
theorem dX4_let_1 : decode cX4_let 1 = .ok (.tableswitch 45 0 2 #[27, 33, 39], 27) := by decide +kernel
theorem dX4_let_28 : decode cX4_let 28 = .ok (.aload_n 0, 1) := by decide +kernel
theorem dX4_let_29 : decode cX4_let 29 = .ok (.iload_n 2, 1) := by decide +kernel
theorem dX4_let_30 : decode cX4_let 30 = .ok (.invokevirtual 40, 3) := by decide +kernel
theorem dX4_let_33 : decode cX4_let 33 = .ok (.ireturn, 1) := by decide +kernel
theorem dX4_let_34 : decode cX4_let 34 = .ok (.aload_n 0, 1) := by decide +kernel
theorem dX4_let_35 : decode cX4_let 35 = .ok (.iload_n 2, 1) := by decide +kernel
theorem dX4_let_36 : decode cX4_let 36 = .ok (.invokevirtual 44, 3) := by decide +kernel
theorem dX4_let_39 : decode cX4_let 39 = .ok (.ireturn, 1) := by decide +kernel
theorem dX4_let_40 : decode cX4_let 40 = .ok (.aload_n 0, 1) := by decide +kernel
theorem dX4_let_41 : decode cX4_let 41 = .ok (.iload_n 2, 1) := by decide +kernel
theorem dX4_let_42 : decode cX4_let 42 = .ok (.invokevirtual 47, 3) := by decide +kernel
theorem dX4_let_45 : decode cX4_let 45 = .ok (.ireturn, 1) := by decide +kernel
theorem dX4_let_46 : decode cX4_let 46 = .ok (.aload_n 0, 1) := by decide +kernel
theorem dX4_let_47 : decode cX4_let 47 = .ok (.ldc 50, 2) := by decide +kernel
theorem dX4_let_49 : decode cX4_let 49 = .ok (.invokevirtual 51, 3) := by decide +kernel
theorem dX4_let_52 : decode cX4_let 52 = .ok (.ireturn, 1) := by decide +kernel
set_option maxRecDepth 20000 in
theorem ggX4_runner_X4_isKind : GoodIn wsX4_runner wsX4_isKind := goodIn_r _ [8] rfl (by decide +kernel)
set_option maxRecDepth 20000 in
theorem gX4_runner_X4_isKind : GoodIn wsX4_runner (va_wsS RX4 54 yX4_isKind wsX4_isKind) := goodIn_app (goodIn_of _ (by decide +kernel)) ggX4_runner_X4_isKind
set_option maxRecDepth 20000 in
theorem ggX4_runner_X4_isPace : GoodIn wsX4_runner wsX4_isPace := goodIn_r _ [11] rfl (by decide +kernel)
set_option maxRecDepth 20000 in
theorem gX4_runner_X4_isPace : GoodIn wsX4_runner (va_wsS RX4 58 yX4_isPace wsX4_isPace) := goodIn_app (goodIn_of _ (by decide +kernel)) ggX4_runner_X4_isPace
set_option maxRecDepth 20000 in
theorem ggX4_runner_X4_isBreath : GoodIn wsX4_runner wsX4_isBreath := goodIn_r _ [14] rfl (by decide +kernel)
set_option maxRecDepth 20000 in
theorem gX4_runner_X4_isBreath : GoodIn wsX4_runner (va_wsS RX4 61 yX4_isBreath wsX4_isBreath) := goodIn_app (goodIn_of _ (by decide +kernel)) ggX4_runner_X4_isBreath
set_option maxRecDepth 20000 in
theorem ggX4_runner_X4_found : GoodIn wsX4_runner wsX4_found := goodIn_r _ [18, 1, 19, 34, 35, 36, 37, 38, 39, 40] rfl (by decide +kernel)
set_option maxRecDepth 20000 in
theorem gX4_runner_X4_found : GoodIn wsX4_runner (wsV RX4 51 RX4 yX4_found wsX4_found) := goodIn_app (goodIn_of _ (by decide +kernel)) ggX4_runner_X4_found
set_option maxRecDepth 20000 in
theorem ggX4_runner_X3_add : GoodIn wsX4_runner wsX3_add := goodIn_r _ [24, 25, 26, 27, 28, 29, 30, 31, 32, 33, 41, 42, 43, 44, 45, 46, 47, 48, 49, 50, 51, 52, 53, 54, 55] rfl (by decide +kernel)
set_option maxRecDepth 20000 in
theorem gX4_runner_X3_add : GoodIn wsX4_runner (wsV RX4 69 RX3 yX3_add wsX3_add) := goodIn_app (goodIn_of _ (by decide +kernel)) ggX4_runner_X3_add
theorem dX4_runner_0 : decode cX4_runner 0 = .ok (.iload_n 1, 1) := by decide +kernel
theorem dX4_runner_1 : decode cX4_runner 1 = .ok (.invokestatic 54, 3) := by decide +kernel
theorem dX4_runner_4 : decode cX4_runner 4 = .ok (.ifCond .eq 17, 3) := by decide +kernel
theorem dX4_runner_7 : decode cX4_runner 7 = .ok (.iload_n 2, 1) := by decide +kernel
theorem dX4_runner_8 : decode cX4_runner 8 = .ok (.invokestatic 58, 3) := by decide +kernel
theorem dX4_runner_11 : decode cX4_runner 11 = .ok (.ifCond .eq 10, 3) := by decide +kernel
theorem dX4_runner_14 : decode cX4_runner 14 = .ok (.iload_n 3, 1) := by decide +kernel
theorem dX4_runner_15 : decode cX4_runner 15 = .ok (.invokestatic 61, 3) := by decide +kernel
theorem dX4_runner_18 : decode cX4_runner 18 = .ok (.ifCond .ne 10, 3) := by decide +kernel
theorem dX4_runner_21 : decode cX4_runner 21 = .ok (.aload_n 0, 1) := by decide +kernel
theorem dX4_runner_22 : decode cX4_runner 22 = .ok (.ldc 50, 2) := by decide +kernel
theorem dX4_runner_24 : decode cX4_runner 24 = .ok (.invokevirtual 51, 3) := by decide +kernel
theorem dX4_runner_27 : decode cX4_runner 27 = .ok (.ireturn, 1) := by decide +kernel
theorem dX4_runner_28 : decode cX4_runner 28 = .ok (.aload_n 0, 1) := by decide +kernel
theorem dX4_runner_29 : decode cX4_runner 29 = .ok (.getfield 10, 3) := by decide +kernel
theorem dX4_runner_32 : decode cX4_runner 32 = .ok (.getfield 64, 3) := by decide +kernel
theorem dX4_runner_35 : decode cX4_runner 35 = .ok (.bipush 9, 2) := by decide +kernel
theorem dX4_runner_37 : decode cX4_runner 37 = .ok (.if_icmp .lt 10, 3) := by decide +kernel
theorem dX4_runner_40 : decode cX4_runner 40 = .ok (.aload_n 0, 1) := by decide +kernel
theorem dX4_runner_41 : decode cX4_runner 41 = .ok (.ldc 68, 2) := by decide +kernel
theorem dX4_runner_43 : decode cX4_runner 43 = .ok (.invokevirtual 51, 3) := by decide +kernel
theorem dX4_runner_46 : decode cX4_runner 46 = .ok (.ireturn, 1) := by decide +kernel
theorem dX4_runner_47 : decode cX4_runner 47 = .ok (.aload_n 0, 1) := by decide +kernel
theorem dX4_runner_48 : decode cX4_runner 48 = .ok (.getfield 10, 3) := by decide +kernel
theorem dX4_runner_51 : decode cX4_runner 51 = .ok (.iload_n 1, 1) := by decide +kernel
theorem dX4_runner_52 : decode cX4_runner 52 = .ok (.iload_n 2, 1) := by decide +kernel
theorem dX4_runner_53 : decode cX4_runner 53 = .ok (.iload_n 3, 1) := by decide +kernel
theorem dX4_runner_54 : decode cX4_runner 54 = .ok (.invokevirtual 69, 3) := by decide +kernel
theorem dX4_runner_57 : decode cX4_runner 57 = .ok (.ireturn, 1) := by decide +kernel
set_option maxRecDepth 20000 in
theorem ggX4_of_X3_has : GoodIn wsX4_of wsX3_has := goodIn_r _ [15, 16, 41, 42, 43, 44, 45, 46, 47, 48, 49, 50, 51, 52, 53, 54, 55] rfl (by decide +kernel)
set_option maxRecDepth 20000 in
theorem gX4_of_X3_has : GoodIn wsX4_of (wsV RX4 73 RX3 yX3_has wsX3_has) := goodIn_app (goodIn_of _ (by decide +kernel)) ggX4_of_X3_has
set_option maxRecDepth 20000 in
theorem ggX4_of_X4_found : GoodIn wsX4_of wsX4_found := goodIn_r _ [21, 2, 22, 34, 35, 36, 37, 38, 39, 40] rfl (by decide +kernel)
set_option maxRecDepth 20000 in
theorem gX4_of_X4_found : GoodIn wsX4_of (wsV RX4 51 RX4 yX4_found wsX4_found) := goodIn_app (goodIn_of _ (by decide +kernel)) ggX4_of_X4_found
set_option maxRecDepth 20000 in
theorem ggX4_of_X3_placeOf : GoodIn wsX4_of wsX3_placeOf := goodIn_r _ [26, 16, 27, 12, 13, 14, 15, 28, 29, 30, 31, 32, 33, 41, 42, 43, 44, 45, 46, 47, 48, 49, 50, 51, 52, 53, 54, 55] rfl (by decide +kernel)
set_option maxRecDepth 20000 in
theorem gX4_of_X3_placeOf : GoodIn wsX4_of (wsV RX4 100 RX3 yX3_placeOf wsX3_placeOf) := goodIn_app (goodIn_of _ (by decide +kernel)) ggX4_of_X3_placeOf
theorem dX4_of_0 : decode cX4_of 0 = .ok (.aload_n 0, 1) := by decide +kernel
theorem dX4_of_1 : decode cX4_of 1 = .ok (.getfield 10, 3) := by decide +kernel
theorem dX4_of_4 : decode cX4_of 4 = .ok (.iload_n 1, 1) := by decide +kernel
theorem dX4_of_5 : decode cX4_of 5 = .ok (.invokevirtual 73, 3) := by decide +kernel
theorem dX4_of_8 : decode cX4_of 8 = .ok (.ifCond .ne 10, 3) := by decide +kernel
theorem dX4_of_11 : decode cX4_of 11 = .ok (.aload_n 0, 1) := by decide +kernel
theorem dX4_of_12 : decode cX4_of 12 = .ok (.ldc 50, 2) := by decide +kernel
theorem dX4_of_14 : decode cX4_of 14 = .ok (.invokevirtual 51, 3) := by decide +kernel
theorem dX4_of_17 : decode cX4_of 17 = .ok (.ireturn, 1) := by decide +kernel
theorem dX4_of_18 : decode cX4_of 18 = .ok (.iload_n 2, 1) := by decide +kernel
theorem dX4_of_19 : decode cX4_of 19 = .ok (.tableswitch 138 0 8 #[49, 59, 69, 79, 89, 99, 109, 119, 129], 49) := by decide +kernel
theorem dX4_of_68 : decode cX4_of 68 = .ok (.aload_n 0, 1) := by decide +kernel
theorem dX4_of_69 : decode cX4_of 69 = .ok (.getfield 10, 3) := by decide +kernel
theorem dX4_of_72 : decode cX4_of 72 = .ok (.getfield 76, 3) := by decide +kernel
theorem dX4_of_75 : decode cX4_of 75 = .ok (.iload_n 1, 1) := by decide +kernel
theorem dX4_of_76 : decode cX4_of 76 = .ok (.iaload, 1) := by decide +kernel
theorem dX4_of_77 : decode cX4_of 77 = .ok (.ireturn, 1) := by decide +kernel
theorem dX4_of_78 : decode cX4_of 78 = .ok (.aload_n 0, 1) := by decide +kernel
theorem dX4_of_79 : decode cX4_of 79 = .ok (.getfield 10, 3) := by decide +kernel
theorem dX4_of_82 : decode cX4_of 82 = .ok (.getfield 79, 3) := by decide +kernel
theorem dX4_of_85 : decode cX4_of 85 = .ok (.iload_n 1, 1) := by decide +kernel
theorem dX4_of_86 : decode cX4_of 86 = .ok (.iaload, 1) := by decide +kernel
theorem dX4_of_87 : decode cX4_of 87 = .ok (.ireturn, 1) := by decide +kernel
theorem dX4_of_88 : decode cX4_of 88 = .ok (.aload_n 0, 1) := by decide +kernel
theorem dX4_of_89 : decode cX4_of 89 = .ok (.getfield 10, 3) := by decide +kernel
theorem dX4_of_92 : decode cX4_of 92 = .ok (.getfield 82, 3) := by decide +kernel
theorem dX4_of_95 : decode cX4_of 95 = .ok (.iload_n 1, 1) := by decide +kernel
theorem dX4_of_96 : decode cX4_of 96 = .ok (.iaload, 1) := by decide +kernel
theorem dX4_of_97 : decode cX4_of 97 = .ok (.ireturn, 1) := by decide +kernel
theorem dX4_of_98 : decode cX4_of 98 = .ok (.aload_n 0, 1) := by decide +kernel
theorem dX4_of_99 : decode cX4_of 99 = .ok (.getfield 10, 3) := by decide +kernel
theorem dX4_of_102 : decode cX4_of 102 = .ok (.getfield 85, 3) := by decide +kernel
theorem dX4_of_105 : decode cX4_of 105 = .ok (.iload_n 1, 1) := by decide +kernel
theorem dX4_of_106 : decode cX4_of 106 = .ok (.iaload, 1) := by decide +kernel
theorem dX4_of_107 : decode cX4_of 107 = .ok (.ireturn, 1) := by decide +kernel
theorem dX4_of_108 : decode cX4_of 108 = .ok (.aload_n 0, 1) := by decide +kernel
theorem dX4_of_109 : decode cX4_of 109 = .ok (.getfield 10, 3) := by decide +kernel
theorem dX4_of_112 : decode cX4_of 112 = .ok (.getfield 88, 3) := by decide +kernel
theorem dX4_of_115 : decode cX4_of 115 = .ok (.iload_n 1, 1) := by decide +kernel
theorem dX4_of_116 : decode cX4_of 116 = .ok (.iaload, 1) := by decide +kernel
theorem dX4_of_117 : decode cX4_of 117 = .ok (.ireturn, 1) := by decide +kernel
theorem dX4_of_118 : decode cX4_of 118 = .ok (.aload_n 0, 1) := by decide +kernel
theorem dX4_of_119 : decode cX4_of 119 = .ok (.getfield 10, 3) := by decide +kernel
theorem dX4_of_122 : decode cX4_of 122 = .ok (.getfield 91, 3) := by decide +kernel
theorem dX4_of_125 : decode cX4_of 125 = .ok (.iload_n 1, 1) := by decide +kernel
theorem dX4_of_126 : decode cX4_of 126 = .ok (.iaload, 1) := by decide +kernel
theorem dX4_of_127 : decode cX4_of 127 = .ok (.ireturn, 1) := by decide +kernel
theorem dX4_of_128 : decode cX4_of 128 = .ok (.aload_n 0, 1) := by decide +kernel
theorem dX4_of_129 : decode cX4_of 129 = .ok (.getfield 10, 3) := by decide +kernel
theorem dX4_of_132 : decode cX4_of 132 = .ok (.getfield 94, 3) := by decide +kernel
theorem dX4_of_135 : decode cX4_of 135 = .ok (.iload_n 1, 1) := by decide +kernel
theorem dX4_of_136 : decode cX4_of 136 = .ok (.iaload, 1) := by decide +kernel
theorem dX4_of_137 : decode cX4_of 137 = .ok (.ireturn, 1) := by decide +kernel
theorem dX4_of_138 : decode cX4_of 138 = .ok (.aload_n 0, 1) := by decide +kernel
theorem dX4_of_139 : decode cX4_of 139 = .ok (.getfield 10, 3) := by decide +kernel
theorem dX4_of_142 : decode cX4_of 142 = .ok (.getfield 97, 3) := by decide +kernel
theorem dX4_of_145 : decode cX4_of 145 = .ok (.iload_n 1, 1) := by decide +kernel
theorem dX4_of_146 : decode cX4_of 146 = .ok (.iaload, 1) := by decide +kernel
theorem dX4_of_147 : decode cX4_of 147 = .ok (.ireturn, 1) := by decide +kernel
theorem dX4_of_148 : decode cX4_of 148 = .ok (.aload_n 0, 1) := by decide +kernel
theorem dX4_of_149 : decode cX4_of 149 = .ok (.getfield 10, 3) := by decide +kernel
theorem dX4_of_152 : decode cX4_of 152 = .ok (.iload_n 1, 1) := by decide +kernel
theorem dX4_of_153 : decode cX4_of 153 = .ok (.invokevirtual 100, 3) := by decide +kernel
theorem dX4_of_156 : decode cX4_of 156 = .ok (.ireturn, 1) := by decide +kernel
theorem dX4_of_157 : decode cX4_of 157 = .ok (.aload_n 0, 1) := by decide +kernel
theorem dX4_of_158 : decode cX4_of 158 = .ok (.ldc 50, 2) := by decide +kernel
theorem dX4_of_160 : decode cX4_of 160 = .ok (.invokevirtual 51, 3) := by decide +kernel
theorem dX4_of_163 : decode cX4_of 163 = .ok (.ireturn, 1) := by decide +kernel
set_option maxRecDepth 20000 in
theorem ggX4_set_X3_has : GoodIn wsX4_set wsX3_has := goodIn_r _ [11, 12, 44, 45, 46, 47, 48, 49, 50, 51, 52, 53, 54, 55, 56, 57, 58] rfl (by decide +kernel)
set_option maxRecDepth 20000 in
theorem gX4_set_X3_has : GoodIn wsX4_set (wsV RX4 73 RX3 yX3_has wsX3_has) := goodIn_app (goodIn_of _ (by decide +kernel)) ggX4_set_X3_has
set_option maxRecDepth 20000 in
theorem ggX4_set_X4_found : GoodIn wsX4_set wsX4_found := goodIn_r _ [17, 2, 18, 37, 38, 39, 40, 41, 42, 43] rfl (by decide +kernel)
set_option maxRecDepth 20000 in
theorem gX4_set_X4_found : GoodIn wsX4_set (wsV RX4 51 RX4 yX4_found wsX4_found) := goodIn_app (goodIn_of _ (by decide +kernel)) ggX4_set_X4_found
set_option maxRecDepth 20000 in
theorem ggX4_set_X4_isPace : GoodIn wsX4_set wsX4_isPace := goodIn_r _ [21] rfl (by decide +kernel)
set_option maxRecDepth 20000 in
theorem gX4_set_X4_isPace : GoodIn wsX4_set (va_wsS RX4 58 yX4_isPace wsX4_isPace) := goodIn_app (goodIn_of _ (by decide +kernel)) ggX4_set_X4_isPace
set_option maxRecDepth 20000 in
theorem ggX4_set_X4_exchange : GoodIn wsX4_set wsX4_exchange := goodIn_r _ [24] rfl (by decide +kernel)
set_option maxRecDepth 20000 in
theorem gX4_set_X4_exchange : GoodIn wsX4_set (va_wsS RX4 103 yX4_exchange wsX4_exchange) := goodIn_app (goodIn_of _ (by decide +kernel)) ggX4_set_X4_exchange
set_option maxRecDepth 20000 in
theorem ggX4_set_X4_isBreath : GoodIn wsX4_set wsX4_isBreath := goodIn_r _ [27] rfl (by decide +kernel)
set_option maxRecDepth 20000 in
theorem gX4_set_X4_isBreath : GoodIn wsX4_set (va_wsS RX4 61 yX4_isBreath wsX4_isBreath) := goodIn_app (goodIn_of _ (by decide +kernel)) ggX4_set_X4_isBreath
set_option maxRecDepth 20000 in
theorem ggX4_set_X4_isFriendFor : GoodIn wsX4_set wsX4_isFriendFor := goodIn_r _ [31, 1, 7, 8, 9, 10, 11, 12, 37, 38, 39, 40, 41, 42, 43, 44, 45, 46, 47, 48, 49, 50, 51, 52, 53, 54, 55, 56, 57, 58] rfl (by decide +kernel)
set_option maxRecDepth 20000 in
theorem gX4_set_X4_isFriendFor : GoodIn wsX4_set (wsV RX4 107 RX4 yX4_isFriendFor wsX4_isFriendFor) := goodIn_app (goodIn_of _ (by decide +kernel)) ggX4_set_X4_isFriendFor
set_option maxRecDepth 20000 in
theorem ggX4_set_X3_isStart : GoodIn wsX4_set wsX3_isStart := goodIn_r _ [35, 36, 44, 45, 46, 47, 48, 49, 50, 51, 52, 53, 54, 55, 56, 57, 58] rfl (by decide +kernel)
set_option maxRecDepth 20000 in
theorem gX4_set_X3_isStart : GoodIn wsX4_set (wsV RX4 111 RX3 yX3_isStart wsX3_isStart) := goodIn_app (goodIn_of _ (by decide +kernel)) ggX4_set_X3_isStart
theorem dX4_set_0 : decode cX4_set 0 = .ok (.aload_n 0, 1) := by decide +kernel
theorem dX4_set_1 : decode cX4_set 1 = .ok (.getfield 10, 3) := by decide +kernel
theorem dX4_set_4 : decode cX4_set 4 = .ok (.iload_n 1, 1) := by decide +kernel
theorem dX4_set_5 : decode cX4_set 5 = .ok (.invokevirtual 73, 3) := by decide +kernel
theorem dX4_set_8 : decode cX4_set 8 = .ok (.ifCond .ne 10, 3) := by decide +kernel
theorem dX4_set_11 : decode cX4_set 11 = .ok (.aload_n 0, 1) := by decide +kernel
theorem dX4_set_12 : decode cX4_set 12 = .ok (.ldc 50, 2) := by decide +kernel
theorem dX4_set_14 : decode cX4_set 14 = .ok (.invokevirtual 51, 3) := by decide +kernel
theorem dX4_set_17 : decode cX4_set 17 = .ok (.ireturn, 1) := by decide +kernel
theorem dX4_set_18 : decode cX4_set 18 = .ok (.iload_n 2, 1) := by decide +kernel
theorem dX4_set_19 : decode cX4_set 19 = .ok (.tableswitch 151 1 4 #[29, 58, 87, 118], 29) := by decide +kernel
theorem dX4_set_48 : decode cX4_set 48 = .ok (.iload_n 3, 1) := by decide +kernel
theorem dX4_set_49 : decode cX4_set 49 = .ok (.invokestatic 58, 3) := by decide +kernel
theorem dX4_set_52 : decode cX4_set 52 = .ok (.ifCond .eq 18, 3) := by decide +kernel
theorem dX4_set_55 : decode cX4_set 55 = .ok (.aload_n 0, 1) := by decide +kernel
theorem dX4_set_56 : decode cX4_set 56 = .ok (.getfield 10, 3) := by decide +kernel
theorem dX4_set_59 : decode cX4_set 59 = .ok (.getfield 79, 3) := by decide +kernel
theorem dX4_set_62 : decode cX4_set 62 = .ok (.iload_n 1, 1) := by decide +kernel
theorem dX4_set_63 : decode cX4_set 63 = .ok (.iload_n 3, 1) := by decide +kernel
theorem dX4_set_64 : decode cX4_set 64 = .ok (.invokestatic 103, 3) := by decide +kernel
theorem dX4_set_67 : decode cX4_set 67 = .ok (.goto 9, 3) := by decide +kernel
theorem dX4_set_70 : decode cX4_set 70 = .ok (.aload_n 0, 1) := by decide +kernel
theorem dX4_set_71 : decode cX4_set 71 = .ok (.ldc 50, 2) := by decide +kernel
theorem dX4_set_73 : decode cX4_set 73 = .ok (.invokevirtual 51, 3) := by decide +kernel
theorem dX4_set_76 : decode cX4_set 76 = .ok (.ireturn, 1) := by decide +kernel
theorem dX4_set_77 : decode cX4_set 77 = .ok (.iload_n 3, 1) := by decide +kernel
theorem dX4_set_78 : decode cX4_set 78 = .ok (.invokestatic 61, 3) := by decide +kernel
theorem dX4_set_81 : decode cX4_set 81 = .ok (.ifCond .eq 18, 3) := by decide +kernel
theorem dX4_set_84 : decode cX4_set 84 = .ok (.aload_n 0, 1) := by decide +kernel
theorem dX4_set_85 : decode cX4_set 85 = .ok (.getfield 10, 3) := by decide +kernel
theorem dX4_set_88 : decode cX4_set 88 = .ok (.getfield 82, 3) := by decide +kernel
theorem dX4_set_91 : decode cX4_set 91 = .ok (.iload_n 1, 1) := by decide +kernel
theorem dX4_set_92 : decode cX4_set 92 = .ok (.iload_n 3, 1) := by decide +kernel
theorem dX4_set_93 : decode cX4_set 93 = .ok (.invokestatic 103, 3) := by decide +kernel
theorem dX4_set_96 : decode cX4_set 96 = .ok (.goto 9, 3) := by decide +kernel
theorem dX4_set_99 : decode cX4_set 99 = .ok (.aload_n 0, 1) := by decide +kernel
theorem dX4_set_100 : decode cX4_set 100 = .ok (.ldc 50, 2) := by decide +kernel
theorem dX4_set_102 : decode cX4_set 102 = .ok (.invokevirtual 51, 3) := by decide +kernel
theorem dX4_set_105 : decode cX4_set 105 = .ok (.ireturn, 1) := by decide +kernel
theorem dX4_set_106 : decode cX4_set 106 = .ok (.aload_n 0, 1) := by decide +kernel
theorem dX4_set_107 : decode cX4_set 107 = .ok (.iload_n 1, 1) := by decide +kernel
theorem dX4_set_108 : decode cX4_set 108 = .ok (.iload_n 3, 1) := by decide +kernel
theorem dX4_set_109 : decode cX4_set 109 = .ok (.invokevirtual 107, 3) := by decide +kernel
theorem dX4_set_112 : decode cX4_set 112 = .ok (.ifCond .eq 18, 3) := by decide +kernel
theorem dX4_set_115 : decode cX4_set 115 = .ok (.aload_n 0, 1) := by decide +kernel
theorem dX4_set_116 : decode cX4_set 116 = .ok (.getfield 10, 3) := by decide +kernel
theorem dX4_set_119 : decode cX4_set 119 = .ok (.getfield 85, 3) := by decide +kernel
theorem dX4_set_122 : decode cX4_set 122 = .ok (.iload_n 1, 1) := by decide +kernel
theorem dX4_set_123 : decode cX4_set 123 = .ok (.iload_n 3, 1) := by decide +kernel
theorem dX4_set_124 : decode cX4_set 124 = .ok (.invokestatic 103, 3) := by decide +kernel
theorem dX4_set_127 : decode cX4_set 127 = .ok (.goto 9, 3) := by decide +kernel
theorem dX4_set_130 : decode cX4_set 130 = .ok (.aload_n 0, 1) := by decide +kernel
theorem dX4_set_131 : decode cX4_set 131 = .ok (.ldc 50, 2) := by decide +kernel
theorem dX4_set_133 : decode cX4_set 133 = .ok (.invokevirtual 51, 3) := by decide +kernel
theorem dX4_set_136 : decode cX4_set 136 = .ok (.ireturn, 1) := by decide +kernel
theorem dX4_set_137 : decode cX4_set 137 = .ok (.aload_n 0, 1) := by decide +kernel
theorem dX4_set_138 : decode cX4_set 138 = .ok (.getfield 10, 3) := by decide +kernel
theorem dX4_set_141 : decode cX4_set 141 = .ok (.iload_n 3, 1) := by decide +kernel
theorem dX4_set_142 : decode cX4_set 142 = .ok (.invokevirtual 111, 3) := by decide +kernel
theorem dX4_set_145 : decode cX4_set 145 = .ok (.ifCond .eq 18, 3) := by decide +kernel
theorem dX4_set_148 : decode cX4_set 148 = .ok (.aload_n 0, 1) := by decide +kernel
theorem dX4_set_149 : decode cX4_set 149 = .ok (.getfield 10, 3) := by decide +kernel
theorem dX4_set_152 : decode cX4_set 152 = .ok (.getfield 88, 3) := by decide +kernel
theorem dX4_set_155 : decode cX4_set 155 = .ok (.iload_n 1, 1) := by decide +kernel
theorem dX4_set_156 : decode cX4_set 156 = .ok (.iload_n 3, 1) := by decide +kernel
theorem dX4_set_157 : decode cX4_set 157 = .ok (.invokestatic 103, 3) := by decide +kernel
theorem dX4_set_160 : decode cX4_set 160 = .ok (.goto 9, 3) := by decide +kernel
theorem dX4_set_163 : decode cX4_set 163 = .ok (.aload_n 0, 1) := by decide +kernel
theorem dX4_set_164 : decode cX4_set 164 = .ok (.ldc 50, 2) := by decide +kernel
theorem dX4_set_166 : decode cX4_set 166 = .ok (.invokevirtual 51, 3) := by decide +kernel
theorem dX4_set_169 : decode cX4_set 169 = .ok (.ireturn, 1) := by decide +kernel
theorem dX4_set_170 : decode cX4_set 170 = .ok (.aload_n 0, 1) := by decide +kernel
theorem dX4_set_171 : decode cX4_set 171 = .ok (.ldc 50, 2) := by decide +kernel
theorem dX4_set_173 : decode cX4_set 173 = .ok (.invokevirtual 51, 3) := by decide +kernel
theorem dX4_set_176 : decode cX4_set 176 = .ok (.ireturn, 1) := by decide +kernel
set_option maxRecDepth 20000 in
theorem ggX4_turn_X3_has : GoodIn wsX4_turn wsX3_has := goodIn_r _ [8, 9, 29, 30, 31, 32, 33, 34, 35, 36, 37, 38, 39, 40, 41, 42, 43] rfl (by decide +kernel)
set_option maxRecDepth 20000 in
theorem gX4_turn_X3_has : GoodIn wsX4_turn (wsV RX4 73 RX3 yX3_has wsX3_has) := goodIn_app (goodIn_of _ (by decide +kernel)) ggX4_turn_X3_has
set_option maxRecDepth 20000 in
theorem ggX4_turn_X4_isKind : GoodIn wsX4_turn wsX4_isKind := goodIn_r _ [13] rfl (by decide +kernel)
set_option maxRecDepth 20000 in
theorem gX4_turn_X4_isKind : GoodIn wsX4_turn (va_wsS RX4 54 yX4_isKind wsX4_isKind) := goodIn_app (goodIn_of _ (by decide +kernel)) ggX4_turn_X4_isKind
set_option maxRecDepth 20000 in
theorem ggX4_turn_X4_found : GoodIn wsX4_turn wsX4_found := goodIn_r _ [17, 2, 18, 22, 23, 24, 25, 26, 27, 28] rfl (by decide +kernel)
set_option maxRecDepth 20000 in
theorem gX4_turn_X4_found : GoodIn wsX4_turn (wsV RX4 51 RX4 yX4_found wsX4_found) := goodIn_app (goodIn_of _ (by decide +kernel)) ggX4_turn_X4_found
set_option maxRecDepth 20000 in
theorem ggX4_turn_X4_exchange : GoodIn wsX4_turn wsX4_exchange := goodIn_r _ [21] rfl (by decide +kernel)
set_option maxRecDepth 20000 in
theorem gX4_turn_X4_exchange : GoodIn wsX4_turn (va_wsS RX4 103 yX4_exchange wsX4_exchange) := goodIn_app (goodIn_of _ (by decide +kernel)) ggX4_turn_X4_exchange
theorem dX4_turn_0 : decode cX4_turn 0 = .ok (.aload_n 0, 1) := by decide +kernel
theorem dX4_turn_1 : decode cX4_turn 1 = .ok (.getfield 10, 3) := by decide +kernel
theorem dX4_turn_4 : decode cX4_turn 4 = .ok (.iload_n 1, 1) := by decide +kernel
theorem dX4_turn_5 : decode cX4_turn 5 = .ok (.invokevirtual 73, 3) := by decide +kernel
theorem dX4_turn_8 : decode cX4_turn 8 = .ok (.ifCond .eq 10, 3) := by decide +kernel
theorem dX4_turn_11 : decode cX4_turn 11 = .ok (.iload_n 2, 1) := by decide +kernel
theorem dX4_turn_12 : decode cX4_turn 12 = .ok (.invokestatic 54, 3) := by decide +kernel
theorem dX4_turn_15 : decode cX4_turn 15 = .ok (.ifCond .ne 10, 3) := by decide +kernel
theorem dX4_turn_18 : decode cX4_turn 18 = .ok (.aload_n 0, 1) := by decide +kernel
theorem dX4_turn_19 : decode cX4_turn 19 = .ok (.ldc 50, 2) := by decide +kernel
theorem dX4_turn_21 : decode cX4_turn 21 = .ok (.invokevirtual 51, 3) := by decide +kernel
theorem dX4_turn_24 : decode cX4_turn 24 = .ok (.ireturn, 1) := by decide +kernel
theorem dX4_turn_25 : decode cX4_turn 25 = .ok (.aload_n 0, 1) := by decide +kernel
theorem dX4_turn_26 : decode cX4_turn 26 = .ok (.getfield 10, 3) := by decide +kernel
theorem dX4_turn_29 : decode cX4_turn 29 = .ok (.getfield 76, 3) := by decide +kernel
theorem dX4_turn_32 : decode cX4_turn 32 = .ok (.iload_n 1, 1) := by decide +kernel
theorem dX4_turn_33 : decode cX4_turn 33 = .ok (.iload_n 2, 1) := by decide +kernel
theorem dX4_turn_34 : decode cX4_turn 34 = .ok (.invokestatic 103, 3) := by decide +kernel
theorem dX4_turn_37 : decode cX4_turn 37 = .ok (.ireturn, 1) := by decide +kernel
set_option maxRecDepth 20000 in
theorem ggX4_as_X3_has : GoodIn wsX4_as wsX3_has := goodIn_r _ [10, 11, 33, 34, 35, 36, 37, 38, 39, 40, 41, 42, 43, 44, 45, 46, 47] rfl (by decide +kernel)
set_option maxRecDepth 20000 in
theorem gX4_as_X3_has : GoodIn wsX4_as (wsV RX4 73 RX3 yX3_has wsX3_has) := goodIn_app (goodIn_of _ (by decide +kernel)) ggX4_as_X3_has
set_option maxRecDepth 20000 in
theorem ggX4_as_X4_isKind : GoodIn wsX4_as wsX4_isKind := goodIn_r _ [15] rfl (by decide +kernel)
set_option maxRecDepth 20000 in
theorem gX4_as_X4_isKind : GoodIn wsX4_as (va_wsS RX4 54 yX4_isKind wsX4_isKind) := goodIn_app (goodIn_of _ (by decide +kernel)) ggX4_as_X4_isKind
set_option maxRecDepth 20000 in
theorem ggX4_as_X4_found : GoodIn wsX4_as wsX4_found := goodIn_r _ [19, 2, 20, 26, 27, 28, 29, 30, 31, 32] rfl (by decide +kernel)
set_option maxRecDepth 20000 in
theorem gX4_as_X4_found : GoodIn wsX4_as (wsV RX4 51 RX4 yX4_found wsX4_found) := goodIn_app (goodIn_of _ (by decide +kernel)) ggX4_as_X4_found
set_option maxRecDepth 20000 in
theorem ggX4_as_X0_isUnder : GoodIn wsX4_as wsX0_isUnder := goodIn_r _ [24, 25] rfl (by decide +kernel)
set_option maxRecDepth 20000 in
theorem gX4_as_X0_isUnder : GoodIn wsX4_as (va_wsS RX4 114 yX0_isUnder wsX0_isUnder) := goodIn_app (goodIn_of _ (by decide +kernel)) ggX4_as_X0_isUnder
theorem dX4_as_0 : decode cX4_as 0 = .ok (.aload_n 0, 1) := by decide +kernel
theorem dX4_as_1 : decode cX4_as 1 = .ok (.getfield 10, 3) := by decide +kernel
theorem dX4_as_4 : decode cX4_as 4 = .ok (.iload_n 1, 1) := by decide +kernel
theorem dX4_as_5 : decode cX4_as 5 = .ok (.invokevirtual 73, 3) := by decide +kernel
theorem dX4_as_8 : decode cX4_as 8 = .ok (.ifCond .eq 10, 3) := by decide +kernel
theorem dX4_as_11 : decode cX4_as 11 = .ok (.iload_n 2, 1) := by decide +kernel
theorem dX4_as_12 : decode cX4_as 12 = .ok (.invokestatic 54, 3) := by decide +kernel
theorem dX4_as_15 : decode cX4_as 15 = .ok (.ifCond .ne 10, 3) := by decide +kernel
theorem dX4_as_18 : decode cX4_as 18 = .ok (.aload_n 0, 1) := by decide +kernel
theorem dX4_as_19 : decode cX4_as 19 = .ok (.ldc 50, 2) := by decide +kernel
theorem dX4_as_21 : decode cX4_as 21 = .ok (.invokevirtual 51, 3) := by decide +kernel
theorem dX4_as_24 : decode cX4_as 24 = .ok (.ireturn, 1) := by decide +kernel
theorem dX4_as_25 : decode cX4_as 25 = .ok (.aload_n 0, 1) := by decide +kernel
theorem dX4_as_26 : decode cX4_as 26 = .ok (.getfield 10, 3) := by decide +kernel
theorem dX4_as_29 : decode cX4_as 29 = .ok (.getfield 76, 3) := by decide +kernel
theorem dX4_as_32 : decode cX4_as 32 = .ok (.iload_n 1, 1) := by decide +kernel
theorem dX4_as_33 : decode cX4_as 33 = .ok (.iaload, 1) := by decide +kernel
theorem dX4_as_34 : decode cX4_as 34 = .ok (.iload_n 2, 1) := by decide +kernel
theorem dX4_as_35 : decode cX4_as 35 = .ok (.invokestatic 114, 3) := by decide +kernel
theorem dX4_as_38 : decode cX4_as 38 = .ok (.ifCond .ne 10, 3) := by decide +kernel
theorem dX4_as_41 : decode cX4_as 41 = .ok (.aload_n 0, 1) := by decide +kernel
theorem dX4_as_42 : decode cX4_as 42 = .ok (.ldc 119, 2) := by decide +kernel
theorem dX4_as_44 : decode cX4_as 44 = .ok (.invokevirtual 51, 3) := by decide +kernel
theorem dX4_as_47 : decode cX4_as 47 = .ok (.ireturn, 1) := by decide +kernel
theorem dX4_as_48 : decode cX4_as 48 = .ok (.aload_n 0, 1) := by decide +kernel
theorem dX4_as_49 : decode cX4_as 49 = .ok (.getfield 10, 3) := by decide +kernel
theorem dX4_as_52 : decode cX4_as 52 = .ok (.getfield 79, 3) := by decide +kernel
theorem dX4_as_55 : decode cX4_as 55 = .ok (.iload_n 1, 1) := by decide +kernel
theorem dX4_as_56 : decode cX4_as 56 = .ok (.iaload, 1) := by decide +kernel
theorem dX4_as_57 : decode cX4_as 57 = .ok (.ireturn, 1) := by decide +kernel
set_option maxRecDepth 20000 in
theorem ggX4_wish_X3_has : GoodIn wsX4_wish wsX3_has := goodIn_r _ [8, 9, 64, 65, 66, 67, 68, 69, 70, 71, 72, 73, 74, 75, 76, 77, 78] rfl (by decide +kernel)
set_option maxRecDepth 20000 in
theorem gX4_wish_X3_has : GoodIn wsX4_wish (wsV RX4 73 RX3 yX3_has wsX3_has) := goodIn_app (goodIn_of _ (by decide +kernel)) ggX4_wish_X3_has
set_option maxRecDepth 20000 in
theorem ggX4_wish_X4_found : GoodIn wsX4_wish wsX4_found := goodIn_r _ [14, 2, 15, 57, 58, 59, 60, 61, 62, 63] rfl (by decide +kernel)
set_option maxRecDepth 20000 in
theorem gX4_wish_X4_found : GoodIn wsX4_wish (wsV RX4 51 RX4 yX4_found wsX4_found) := goodIn_app (goodIn_of _ (by decide +kernel)) ggX4_wish_X4_found
set_option maxRecDepth 20000 in
theorem ggX4_wish_X3_isHome : GoodIn wsX4_wish wsX3_isHome := goodIn_r _ [19, 20, 21, 5, 6, 7, 8, 9, 64, 65, 66, 67, 68, 69, 70, 71, 72, 73, 74, 75, 76, 77, 78] rfl (by decide +kernel)
set_option maxRecDepth 20000 in
theorem gX4_wish_X3_isHome : GoodIn wsX4_wish (wsV RX4 120 RX3 yX3_isHome wsX3_isHome) := goodIn_app (goodIn_of _ (by decide +kernel)) ggX4_wish_X3_isHome
set_option maxRecDepth 20000 in
theorem ggX4_wish_X3_firstAlone : GoodIn wsX4_wish wsX3_firstAlone := goodIn_r _ [25, 9, 20, 26, 64, 65, 66, 67, 68, 69, 70, 71, 72, 73, 74, 75, 76, 77, 78] rfl (by decide +kernel)
set_option maxRecDepth 20000 in
theorem gX4_wish_X3_firstAlone : GoodIn wsX4_wish (wsV RX4 124 RX3 yX3_firstAlone wsX3_firstAlone) := goodIn_app (goodIn_of _ (by decide +kernel)) ggX4_wish_X3_firstAlone
set_option maxRecDepth 20000 in
theorem ggX4_wish_X3_wishOf : GoodIn wsX4_wish wsX3_wishOf := goodIn_r _ [30, 31, 32, 33, 34, 35, 36, 37, 38, 21, 5, 6, 7, 8, 9, 39, 40, 41, 42, 26, 43, 44, 45, 46, 47, 20, 48, 49, 50, 51, 17, 18, 19, 52, 53, 54, 55, 56, 64, 65, 66, 67, 68, 69, 70, 71, 72, 73, 74, 75, 76, 77, 78] rfl (by decide +kernel)
set_option maxRecDepth 20000 in
theorem gX4_wish_X3_wishOf : GoodIn wsX4_wish (wsV RX4 128 RX3 yX3_wishOf wsX3_wishOf) := goodIn_app (goodIn_of _ (by decide +kernel)) ggX4_wish_X3_wishOf
theorem dX4_wish_0 : decode cX4_wish 0 = .ok (.aload_n 0, 1) := by decide +kernel
theorem dX4_wish_1 : decode cX4_wish 1 = .ok (.getfield 10, 3) := by decide +kernel
theorem dX4_wish_4 : decode cX4_wish 4 = .ok (.iload_n 1, 1) := by decide +kernel
theorem dX4_wish_5 : decode cX4_wish 5 = .ok (.invokevirtual 73, 3) := by decide +kernel
theorem dX4_wish_8 : decode cX4_wish 8 = .ok (.ifCond .ne 10, 3) := by decide +kernel
theorem dX4_wish_11 : decode cX4_wish 11 = .ok (.aload_n 0, 1) := by decide +kernel
theorem dX4_wish_12 : decode cX4_wish 12 = .ok (.ldc 50, 2) := by decide +kernel
theorem dX4_wish_14 : decode cX4_wish 14 = .ok (.invokevirtual 51, 3) := by decide +kernel
theorem dX4_wish_17 : decode cX4_wish 17 = .ok (.ireturn, 1) := by decide +kernel
theorem dX4_wish_18 : decode cX4_wish 18 = .ok (.aload_n 0, 1) := by decide +kernel
theorem dX4_wish_19 : decode cX4_wish 19 = .ok (.getfield 10, 3) := by decide +kernel
theorem dX4_wish_22 : decode cX4_wish 22 = .ok (.iload_n 1, 1) := by decide +kernel
theorem dX4_wish_23 : decode cX4_wish 23 = .ok (.invokevirtual 120, 3) := by decide +kernel
theorem dX4_wish_26 : decode cX4_wish 26 = .ok (.ifCond .eq 10, 3) := by decide +kernel
theorem dX4_wish_29 : decode cX4_wish 29 = .ok (.aload_n 0, 1) := by decide +kernel
theorem dX4_wish_30 : decode cX4_wish 30 = .ok (.ldc 123, 2) := by decide +kernel
theorem dX4_wish_32 : decode cX4_wish 32 = .ok (.invokevirtual 51, 3) := by decide +kernel
theorem dX4_wish_35 : decode cX4_wish 35 = .ok (.ireturn, 1) := by decide +kernel
theorem dX4_wish_36 : decode cX4_wish 36 = .ok (.aload_n 0, 1) := by decide +kernel
theorem dX4_wish_37 : decode cX4_wish 37 = .ok (.getfield 10, 3) := by decide +kernel
theorem dX4_wish_40 : decode cX4_wish 40 = .ok (.iload_n 1, 1) := by decide +kernel
theorem dX4_wish_41 : decode cX4_wish 41 = .ok (.aload_n 0, 1) := by decide +kernel
theorem dX4_wish_42 : decode cX4_wish 42 = .ok (.getfield 10, 3) := by decide +kernel
theorem dX4_wish_45 : decode cX4_wish 45 = .ok (.invokevirtual 124, 3) := by decide +kernel
theorem dX4_wish_48 : decode cX4_wish 48 = .ok (.invokevirtual 128, 3) := by decide +kernel
theorem dX4_wish_51 : decode cX4_wish 51 = .ok (.ireturn, 1) := by decide +kernel
set_option maxRecDepth 20000 in
theorem ggX4_line_X3_lineUp : GoodIn wsX4_line wsX3_lineUp := goodIn_r _ [7, 8, 9, 10, 11, 12, 13, 21, 22, 23, 24, 25, 26, 27, 28, 29, 30, 31, 32, 33, 34, 35] rfl (by decide +kernel)
set_option maxRecDepth 20000 in
theorem gX4_line_X3_lineUp : GoodIn wsX4_line (wsV RX4 135 RX3 yX3_lineUp wsX3_lineUp) := goodIn_app (goodIn_of _ (by decide +kernel)) ggX4_line_X3_lineUp
theorem dX4_line_0 : decode cX4_line 0 = .ok (.aload_n 0, 1) := by decide +kernel
theorem dX4_line_1 : decode cX4_line 1 = .ok (.getfield 10, 3) := by decide +kernel
theorem dX4_line_4 : decode cX4_line 4 = .ok (.getfield 132, 3) := by decide +kernel
theorem dX4_line_7 : decode cX4_line 7 = .ok (.istore_n 1, 1) := by decide +kernel
theorem dX4_line_8 : decode cX4_line 8 = .ok (.aload_n 0, 1) := by decide +kernel
theorem dX4_line_9 : decode cX4_line 9 = .ok (.getfield 10, 3) := by decide +kernel
theorem dX4_line_12 : decode cX4_line 12 = .ok (.invokevirtual 135, 3) := by decide +kernel
theorem dX4_line_15 : decode cX4_line 15 = .ok (.iload_n 1, 1) := by decide +kernel
theorem dX4_line_16 : decode cX4_line 16 = .ok (.ireturn, 1) := by decide +kernel
set_option maxRecDepth 20000 in
theorem ggX4_seconds_X4_found : GoodIn wsX4_seconds wsX4_found := goodIn_r _ [8, 1, 9, 74, 75, 76, 77, 78, 79, 80] rfl (by decide +kernel)
set_option maxRecDepth 20000 in
theorem gX4_seconds_X4_found : GoodIn wsX4_seconds (wsV RX4 51 RX4 yX4_found wsX4_found) := goodIn_app (goodIn_of _ (by decide +kernel)) ggX4_seconds_X4_found
set_option maxRecDepth 20000 in
theorem ggX4_seconds_X3_goOn : GoodIn wsX4_seconds wsX3_goOn := goodIn_r _ [14, 15, 16, 17, 13, 18, 19, 20, 21, 22, 23, 24, 25, 26, 27, 28, 29, 30, 31, 32, 33, 34, 35, 36, 37, 38, 39, 40, 41, 42, 43, 44, 45, 46, 47, 48, 49, 50, 51, 52, 53, 54, 55, 56, 57, 58, 59, 60, 61, 62, 63, 64, 65, 66, 67, 68, 69, 70, 71, 72, 73, 81, 82, 83, 84, 85, 86, 87, 88, 89, 90, 91, 92, 93, 94, 95] rfl (by decide +kernel)
set_option maxRecDepth 20000 in
theorem gX4_seconds_X3_goOn : GoodIn wsX4_seconds (wsV RX4 138 RX3 yX3_goOn wsX3_goOn) := goodIn_app (goodIn_of _ (by decide +kernel)) ggX4_seconds_X3_goOn
theorem dX4_seconds_0 : decode cX4_seconds 0 = .ok (.iload_n 1, 1) := by decide +kernel
theorem dX4_seconds_1 : decode cX4_seconds 1 = .ok (.iconst 1, 1) := by decide +kernel
theorem dX4_seconds_2 : decode cX4_seconds 2 = .ok (.if_icmp .lt 10, 3) := by decide +kernel
theorem dX4_seconds_5 : decode cX4_seconds 5 = .ok (.iload_n 1, 1) := by decide +kernel
theorem dX4_seconds_6 : decode cX4_seconds 6 = .ok (.sipush 600, 3) := by decide +kernel
theorem dX4_seconds_9 : decode cX4_seconds 9 = .ok (.if_icmp .le 10, 3) := by decide +kernel
theorem dX4_seconds_12 : decode cX4_seconds 12 = .ok (.aload_n 0, 1) := by decide +kernel
theorem dX4_seconds_13 : decode cX4_seconds 13 = .ok (.ldc 50, 2) := by decide +kernel
theorem dX4_seconds_15 : decode cX4_seconds 15 = .ok (.invokevirtual 51, 3) := by decide +kernel
theorem dX4_seconds_18 : decode cX4_seconds 18 = .ok (.ireturn, 1) := by decide +kernel
theorem dX4_seconds_19 : decode cX4_seconds 19 = .ok (.aload_n 0, 1) := by decide +kernel
theorem dX4_seconds_20 : decode cX4_seconds 20 = .ok (.getfield 10, 3) := by decide +kernel
theorem dX4_seconds_23 : decode cX4_seconds 23 = .ok (.getfield 132, 3) := by decide +kernel
theorem dX4_seconds_26 : decode cX4_seconds 26 = .ok (.istore_n 2, 1) := by decide +kernel
theorem dX4_seconds_27 : decode cX4_seconds 27 = .ok (.aload_n 0, 1) := by decide +kernel
theorem dX4_seconds_28 : decode cX4_seconds 28 = .ok (.getfield 10, 3) := by decide +kernel
theorem dX4_seconds_31 : decode cX4_seconds 31 = .ok (.iload_n 1, 1) := by decide +kernel
theorem dX4_seconds_32 : decode cX4_seconds 32 = .ok (.invokevirtual 138, 3) := by decide +kernel
theorem dX4_seconds_35 : decode cX4_seconds 35 = .ok (.aload_n 0, 1) := by decide +kernel
theorem dX4_seconds_36 : decode cX4_seconds 36 = .ok (.getfield 10, 3) := by decide +kernel
theorem dX4_seconds_39 : decode cX4_seconds 39 = .ok (.getfield 132, 3) := by decide +kernel
theorem dX4_seconds_42 : decode cX4_seconds 42 = .ok (.iload_n 2, 1) := by decide +kernel
theorem dX4_seconds_43 : decode cX4_seconds 43 = .ok (.isub, 1) := by decide +kernel
theorem dX4_seconds_44 : decode cX4_seconds 44 = .ok (.ireturn, 1) := by decide +kernel
set_option maxRecDepth 20000 in
theorem ggX4_now_X4_found : GoodIn wsX4_now wsX4_found := goodIn_r _ [12, 7, 13, 14, 15, 16, 17, 18, 19, 20] rfl (by decide +kernel)
set_option maxRecDepth 20000 in
theorem gX4_now_X4_found : GoodIn wsX4_now (wsV RX4 51 RX4 yX4_found wsX4_found) := goodIn_app (goodIn_of _ (by decide +kernel)) ggX4_now_X4_found
theorem dX4_now_0 : decode cX4_now 0 = .ok (.iload_n 1, 1) := by decide +kernel
theorem dX4_now_1 : decode cX4_now 1 = .ok (.tableswitch 75 0 4 #[35, 43, 51, 59, 67], 35) := by decide +kernel
theorem dX4_now_36 : decode cX4_now 36 = .ok (.aload_n 0, 1) := by decide +kernel
theorem dX4_now_37 : decode cX4_now 37 = .ok (.getfield 10, 3) := by decide +kernel
theorem dX4_now_40 : decode cX4_now 40 = .ok (.getfield 142, 3) := by decide +kernel
theorem dX4_now_43 : decode cX4_now 43 = .ok (.ireturn, 1) := by decide +kernel
theorem dX4_now_44 : decode cX4_now 44 = .ok (.aload_n 0, 1) := by decide +kernel
theorem dX4_now_45 : decode cX4_now 45 = .ok (.getfield 10, 3) := by decide +kernel
theorem dX4_now_48 : decode cX4_now 48 = .ok (.getfield 145, 3) := by decide +kernel
theorem dX4_now_51 : decode cX4_now 51 = .ok (.ireturn, 1) := by decide +kernel
theorem dX4_now_52 : decode cX4_now 52 = .ok (.aload_n 0, 1) := by decide +kernel
theorem dX4_now_53 : decode cX4_now 53 = .ok (.getfield 10, 3) := by decide +kernel
theorem dX4_now_56 : decode cX4_now 56 = .ok (.getfield 148, 3) := by decide +kernel
theorem dX4_now_59 : decode cX4_now 59 = .ok (.ireturn, 1) := by decide +kernel
theorem dX4_now_60 : decode cX4_now 60 = .ok (.aload_n 0, 1) := by decide +kernel
theorem dX4_now_61 : decode cX4_now 61 = .ok (.getfield 10, 3) := by decide +kernel
theorem dX4_now_64 : decode cX4_now 64 = .ok (.getfield 151, 3) := by decide +kernel
theorem dX4_now_67 : decode cX4_now 67 = .ok (.ireturn, 1) := by decide +kernel
theorem dX4_now_68 : decode cX4_now 68 = .ok (.aload_n 0, 1) := by decide +kernel
theorem dX4_now_69 : decode cX4_now 69 = .ok (.getfield 10, 3) := by decide +kernel
theorem dX4_now_72 : decode cX4_now 72 = .ok (.getfield 132, 3) := by decide +kernel
theorem dX4_now_75 : decode cX4_now 75 = .ok (.ireturn, 1) := by decide +kernel
theorem dX4_now_76 : decode cX4_now 76 = .ok (.aload_n 0, 1) := by decide +kernel
theorem dX4_now_77 : decode cX4_now 77 = .ok (.ldc 50, 2) := by decide +kernel
theorem dX4_now_79 : decode cX4_now 79 = .ok (.invokevirtual 51, 3) := by decide +kernel
theorem dX4_now_82 : decode cX4_now 82 = .ok (.ireturn, 1) := by decide +kernel
set_option maxRecDepth 20000 in
theorem ggX4_place_X3_has : GoodIn wsX4_place wsX3_has := goodIn_r _ [7, 8, 37, 38, 39, 40, 41, 42, 43, 44, 45, 46, 47, 48, 49, 50, 51] rfl (by decide +kernel)
set_option maxRecDepth 20000 in
theorem gX4_place_X3_has : GoodIn wsX4_place (wsV RX4 73 RX3 yX3_has wsX3_has) := goodIn_app (goodIn_of _ (by decide +kernel)) ggX4_place_X3_has
set_option maxRecDepth 20000 in
theorem ggX4_place_X3_whoseAt : GoodIn wsX4_place wsX3_whoseAt := goodIn_r _ [12, 8, 13, 14, 15, 6, 16, 17, 4, 5, 7, 18, 19, 20, 21, 22, 23, 37, 38, 39, 40, 41, 42, 43, 44, 45, 46, 47, 48, 49, 50, 51] rfl (by decide +kernel)
set_option maxRecDepth 20000 in
theorem gX4_place_X3_whoseAt : GoodIn wsX4_place (wsV RX4 154 RX3 yX3_whoseAt wsX3_whoseAt) := goodIn_app (goodIn_of _ (by decide +kernel)) ggX4_place_X3_whoseAt
set_option maxRecDepth 20000 in
theorem ggX4_place_X4_found : GoodIn wsX4_place wsX4_found := goodIn_r _ [28, 2, 29, 30, 31, 32, 33, 34, 35, 36] rfl (by decide +kernel)
set_option maxRecDepth 20000 in
theorem gX4_place_X4_found : GoodIn wsX4_place (wsV RX4 51 RX4 yX4_found wsX4_found) := goodIn_app (goodIn_of _ (by decide +kernel)) ggX4_place_X4_found
theorem dX4_place_0 : decode cX4_place 0 = .ok (.aload_n 0, 1) := by decide +kernel
theorem dX4_place_1 : decode cX4_place 1 = .ok (.getfield 10, 3) := by decide +kernel
theorem dX4_place_4 : decode cX4_place 4 = .ok (.iload_n 1, 1) := by decide +kernel
theorem dX4_place_5 : decode cX4_place 5 = .ok (.invokevirtual 73, 3) := by decide +kernel
theorem dX4_place_8 : decode cX4_place 8 = .ok (.ifCond .eq 14, 3) := by decide +kernel
theorem dX4_place_11 : decode cX4_place 11 = .ok (.aload_n 0, 1) := by decide +kernel
theorem dX4_place_12 : decode cX4_place 12 = .ok (.getfield 10, 3) := by decide +kernel
theorem dX4_place_15 : decode cX4_place 15 = .ok (.iload_n 1, 1) := by decide +kernel
theorem dX4_place_16 : decode cX4_place 16 = .ok (.invokevirtual 154, 3) := by decide +kernel
theorem dX4_place_19 : decode cX4_place 19 = .ok (.goto 9, 3) := by decide +kernel
theorem dX4_place_22 : decode cX4_place 22 = .ok (.aload_n 0, 1) := by decide +kernel
theorem dX4_place_23 : decode cX4_place 23 = .ok (.ldc 50, 2) := by decide +kernel
theorem dX4_place_25 : decode cX4_place 25 = .ok (.invokevirtual 51, 3) := by decide +kernel
theorem dX4_place_28 : decode cX4_place 28 = .ok (.ireturn, 1) := by decide +kernel
set_option maxRecDepth 20000 in
theorem ggX4_prize_X3_prizeOwner : GoodIn wsX4_prize wsX3_prizeOwner := goodIn_r _ [7, 8, 9, 10, 11, 6, 12, 13, 14, 15, 16, 17, 18, 19, 20, 21, 22, 23, 24, 25, 26, 46, 47, 48, 49, 50, 51, 52, 53, 54, 55, 56, 57, 58, 59, 60] rfl (by decide +kernel)
set_option maxRecDepth 20000 in
theorem gX4_prize_X3_prizeOwner : GoodIn wsX4_prize (wsV RX4 157 RX3 yX3_prizeOwner wsX3_prizeOwner) := goodIn_app (goodIn_of _ (by decide +kernel)) ggX4_prize_X3_prizeOwner
set_option maxRecDepth 20000 in
theorem ggX4_prize_X4_runnerOrNone : GoodIn wsX4_prize wsX4_runnerOrNone := goodIn_r _ [31, 32, 33, 34, 35, 30, 36, 37, 38, 39, 40, 41, 42, 43, 44, 45] rfl (by decide +kernel)
set_option maxRecDepth 20000 in
theorem gX4_prize_X4_runnerOrNone : GoodIn wsX4_prize (wsV RX4 160 RX4 yX4_runnerOrNone wsX4_runnerOrNone) := goodIn_app (goodIn_of _ (by decide +kernel)) ggX4_prize_X4_runnerOrNone
theorem dX4_prize_0 : decode cX4_prize 0 = .ok (.aload_n 0, 1) := by decide +kernel
theorem dX4_prize_1 : decode cX4_prize 1 = .ok (.aload_n 0, 1) := by decide +kernel
theorem dX4_prize_2 : decode cX4_prize 2 = .ok (.getfield 10, 3) := by decide +kernel
theorem dX4_prize_5 : decode cX4_prize 5 = .ok (.aload_n 0, 1) := by decide +kernel
theorem dX4_prize_6 : decode cX4_prize 6 = .ok (.getfield 10, 3) := by decide +kernel
theorem dX4_prize_9 : decode cX4_prize 9 = .ok (.getfield 151, 3) := by decide +kernel
theorem dX4_prize_12 : decode cX4_prize 12 = .ok (.invokevirtual 157, 3) := by decide +kernel
theorem dX4_prize_15 : decode cX4_prize 15 = .ok (.invokevirtual 160, 3) := by decide +kernel
theorem dX4_prize_18 : decode cX4_prize 18 = .ok (.ireturn, 1) := by decide +kernel
set_option maxRecDepth 20000 in
theorem ggX4_score_X3_allHome : GoodIn wsX4_score wsX3_allHome := goodIn_r _ [8, 9, 10, 53, 54, 55, 56, 57, 58, 59, 60, 61, 62, 63, 64, 65, 66, 67] rfl (by decide +kernel)
set_option maxRecDepth 20000 in
theorem gX4_score_X3_allHome : GoodIn wsX4_score (wsV RX4 163 RX3 yX3_allHome wsX3_allHome) := goodIn_app (goodIn_of _ (by decide +kernel)) ggX4_score_X3_allHome
set_option maxRecDepth 20000 in
theorem ggX4_score_X4_found : GoodIn wsX4_score wsX4_found := goodIn_r _ [15, 16, 17, 46, 47, 48, 49, 50, 51, 52] rfl (by decide +kernel)
set_option maxRecDepth 20000 in
theorem gX4_score_X4_found : GoodIn wsX4_score (wsV RX4 51 RX4 yX4_found wsX4_found) := goodIn_app (goodIn_of _ (by decide +kernel)) ggX4_score_X4_found
set_option maxRecDepth 20000 in
theorem ggX4_score_X3_givePoints : GoodIn wsX4_score wsX3_givePoints := goodIn_r _ [21, 22, 10, 23, 24, 25, 26, 7, 27, 28, 29, 30, 31, 32, 33, 34, 35, 36, 37, 38, 39, 40, 41, 42, 43, 44, 45, 53, 54, 55, 56, 57, 58, 59, 60, 61, 62, 63, 64, 65, 66, 67] rfl (by decide +kernel)
set_option maxRecDepth 20000 in
theorem gX4_score_X3_givePoints : GoodIn wsX4_score (wsV RX4 167 RX3 yX3_givePoints wsX3_givePoints) := goodIn_app (goodIn_of _ (by decide +kernel)) ggX4_score_X3_givePoints
theorem dX4_score_0 : decode cX4_score 0 = .ok (.aload_n 0, 1) := by decide +kernel
theorem dX4_score_1 : decode cX4_score 1 = .ok (.getfield 10, 3) := by decide +kernel
theorem dX4_score_4 : decode cX4_score 4 = .ok (.getfield 64, 3) := by decide +kernel
theorem dX4_score_7 : decode cX4_score 7 = .ok (.ifCond .eq 13, 3) := by decide +kernel
theorem dX4_score_10 : decode cX4_score 10 = .ok (.aload_n 0, 1) := by decide +kernel
theorem dX4_score_11 : decode cX4_score 11 = .ok (.getfield 10, 3) := by decide +kernel
theorem dX4_score_14 : decode cX4_score 14 = .ok (.invokevirtual 163, 3) := by decide +kernel
theorem dX4_score_17 : decode cX4_score 17 = .ok (.ifCond .ne 10, 3) := by decide +kernel
theorem dX4_score_20 : decode cX4_score 20 = .ok (.aload_n 0, 1) := by decide +kernel
theorem dX4_score_21 : decode cX4_score 21 = .ok (.ldc 123, 2) := by decide +kernel
theorem dX4_score_23 : decode cX4_score 23 = .ok (.invokevirtual 51, 3) := by decide +kernel
theorem dX4_score_26 : decode cX4_score 26 = .ok (.ireturn, 1) := by decide +kernel
theorem dX4_score_27 : decode cX4_score 27 = .ok (.aload_n 0, 1) := by decide +kernel
theorem dX4_score_28 : decode cX4_score 28 = .ok (.getfield 10, 3) := by decide +kernel
theorem dX4_score_31 : decode cX4_score 31 = .ok (.invokevirtual 167, 3) := by decide +kernel
theorem dX4_score_34 : decode cX4_score 34 = .ok (.ireturn, 1) := by decide +kernel
set_option maxRecDepth 20000 in
theorem ggX4_leads_X4_most : GoodIn wsX4_leads wsX4_most := goodIn_r _ [7, 1, 8, 20, 21, 22, 23, 24, 25, 26, 27, 28, 29, 30, 31, 32, 33, 34, 35, 36, 37, 38, 39, 40, 41] rfl (by decide +kernel)
set_option maxRecDepth 20000 in
theorem gX4_leads_X4_most : GoodIn wsX4_leads (wsV RX4 170 RX4 yX4_most wsX4_most) := goodIn_app (goodIn_of _ (by decide +kernel)) ggX4_leads_X4_most
set_option maxRecDepth 20000 in
theorem ggX4_leads_X4_runnerOrNone : GoodIn wsX4_leads wsX4_runnerOrNone := goodIn_r _ [12, 13, 14, 15, 16, 6, 17, 18, 19, 20, 21, 22, 23, 24, 25, 26] rfl (by decide +kernel)
set_option maxRecDepth 20000 in
theorem gX4_leads_X4_runnerOrNone : GoodIn wsX4_leads (wsV RX4 160 RX4 yX4_runnerOrNone wsX4_runnerOrNone) := goodIn_app (goodIn_of _ (by decide +kernel)) ggX4_leads_X4_runnerOrNone
theorem dX4_leads_0 : decode cX4_leads 0 = .ok (.aload_n 0, 1) := by decide +kernel
theorem dX4_leads_1 : decode cX4_leads 1 = .ok (.aload_n 0, 1) := by decide +kernel
theorem dX4_leads_2 : decode cX4_leads 2 = .ok (.aload_n 0, 1) := by decide +kernel
theorem dX4_leads_3 : decode cX4_leads 3 = .ok (.getfield 10, 3) := by decide +kernel
theorem dX4_leads_6 : decode cX4_leads 6 = .ok (.getfield 94, 3) := by decide +kernel
theorem dX4_leads_9 : decode cX4_leads 9 = .ok (.invokevirtual 170, 3) := by decide +kernel
theorem dX4_leads_12 : decode cX4_leads 12 = .ok (.invokevirtual 160, 3) := by decide +kernel
theorem dX4_leads_15 : decode cX4_leads 15 = .ok (.ireturn, 1) := by decide +kernel
set_option maxRecDepth 20000 in
theorem ggX4_on_X3_has : GoodIn wsX4_on wsX3_has := goodIn_r _ [8, 9, 94, 95, 96, 97, 98, 99, 100, 101, 102, 103, 104, 105, 106, 107, 108] rfl (by decide +kernel)
set_option maxRecDepth 20000 in
theorem gX4_on_X3_has : GoodIn wsX4_on (wsV RX4 73 RX3 yX3_has wsX3_has) := goodIn_app (goodIn_of _ (by decide +kernel)) ggX4_on_X3_has
set_option maxRecDepth 20000 in
theorem ggX4_on_X4_found : GoodIn wsX4_on wsX4_found := goodIn_r _ [14, 2, 15, 87, 88, 89, 90, 91, 92, 93] rfl (by decide +kernel)
set_option maxRecDepth 20000 in
theorem gX4_on_X4_found : GoodIn wsX4_on (wsV RX4 51 RX4 yX4_found wsX4_found) := goodIn_app (goodIn_of _ (by decide +kernel)) ggX4_on_X4_found
set_option maxRecDepth 20000 in
theorem ggX4_on_X4_tryOut : GoodIn wsX4_on wsX4_tryOut := goodIn_r _ [19, 20, 1, 21, 22, 23, 7, 24, 25, 26, 27, 28, 9, 29, 30, 31, 32, 33, 34, 35, 36, 37, 87, 88, 89, 90, 91, 92, 93, 94, 95, 96, 97, 98, 99, 100, 101, 102, 103, 104, 105, 106, 107, 108] rfl (by decide +kernel)
set_option maxRecDepth 20000 in
theorem gX4_on_X4_tryOut : GoodIn wsX4_on (wsV RX4 174 RX4 yX4_tryOut wsX4_tryOut) := goodIn_app (goodIn_of _ (by decide +kernel)) ggX4_on_X4_tryOut
set_option maxRecDepth 20000 in
theorem ggX4_on_X3_goOn : GoodIn wsX4_on wsX3_goOn := goodIn_r _ [41, 42, 43, 44, 7, 45, 29, 9, 46, 47, 48, 49, 50, 37, 26, 51, 52, 53, 54, 28, 35, 25, 55, 56, 57, 58, 59, 60, 61, 62, 30, 33, 63, 64, 65, 31, 66, 5, 6, 8, 67, 68, 69, 70, 71, 72, 73, 74, 75, 76, 77, 78, 79, 80, 81, 82, 83, 84, 85, 86, 32, 94, 95, 96, 97, 98, 99, 100, 101, 102, 103, 104, 105, 106, 107, 108] rfl (by decide +kernel)
set_option maxRecDepth 20000 in
theorem gX4_on_X3_goOn : GoodIn wsX4_on (wsV RX4 138 RX3 yX3_goOn wsX3_goOn) := goodIn_app (goodIn_of _ (by decide +kernel)) ggX4_on_X3_goOn
theorem dX4_on_0 : decode cX4_on 0 = .ok (.aload_n 0, 1) := by decide +kernel
theorem dX4_on_1 : decode cX4_on 1 = .ok (.getfield 10, 3) := by decide +kernel
theorem dX4_on_4 : decode cX4_on 4 = .ok (.iload_n 1, 1) := by decide +kernel
theorem dX4_on_5 : decode cX4_on 5 = .ok (.invokevirtual 73, 3) := by decide +kernel
theorem dX4_on_8 : decode cX4_on 8 = .ok (.ifCond .eq 14, 3) := by decide +kernel
theorem dX4_on_11 : decode cX4_on 11 = .ok (.iload_n 2, 1) := by decide +kernel
theorem dX4_on_12 : decode cX4_on 12 = .ok (.ifCond .lt 10, 3) := by decide +kernel
theorem dX4_on_15 : decode cX4_on 15 = .ok (.iload_n 2, 1) := by decide +kernel
theorem dX4_on_16 : decode cX4_on 16 = .ok (.sipush 2000, 3) := by decide +kernel
theorem dX4_on_19 : decode cX4_on 19 = .ok (.if_icmp .le 10, 3) := by decide +kernel
theorem dX4_on_22 : decode cX4_on 22 = .ok (.aload_n 0, 1) := by decide +kernel
theorem dX4_on_23 : decode cX4_on 23 = .ok (.ldc 50, 2) := by decide +kernel
theorem dX4_on_25 : decode cX4_on 25 = .ok (.invokevirtual 51, 3) := by decide +kernel
theorem dX4_on_28 : decode cX4_on 28 = .ok (.ireturn, 1) := by decide +kernel
theorem dX4_on_29 : decode cX4_on 29 = .ok (.aload_n 0, 1) := by decide +kernel
theorem dX4_on_30 : decode cX4_on 30 = .ok (.invokevirtual 174, 3) := by decide +kernel
theorem dX4_on_33 : decode cX4_on 33 = .ok (.astore_n 3, 1) := by decide +kernel
theorem dX4_on_34 : decode cX4_on 34 = .ok (.aload_n 3, 1) := by decide +kernel
theorem dX4_on_35 : decode cX4_on 35 = .ok (.iload_n 2, 1) := by decide +kernel
theorem dX4_on_36 : decode cX4_on 36 = .ok (.invokevirtual 138, 3) := by decide +kernel
theorem dX4_on_39 : decode cX4_on 39 = .ok (.aload_n 3, 1) := by decide +kernel
theorem dX4_on_40 : decode cX4_on 40 = .ok (.getfield 91, 3) := by decide +kernel
theorem dX4_on_43 : decode cX4_on 43 = .ok (.iload_n 1, 1) := by decide +kernel
theorem dX4_on_44 : decode cX4_on 44 = .ok (.iaload, 1) := by decide +kernel
theorem dX4_on_45 : decode cX4_on 45 = .ok (.ireturn, 1) := by decide +kernel
set_option maxRecDepth 20000 in
theorem ggX4_home_X3_has : GoodIn wsX4_home wsX3_has := goodIn_r _ [9, 10, 96, 97, 98, 99, 100, 101, 102, 103, 104, 105, 106, 107, 108, 109, 110] rfl (by decide +kernel)
set_option maxRecDepth 20000 in
theorem gX4_home_X3_has : GoodIn wsX4_home (wsV RX4 73 RX3 yX3_has wsX3_has) := goodIn_app (goodIn_of _ (by decide +kernel)) ggX4_home_X3_has
set_option maxRecDepth 20000 in
theorem ggX4_home_X4_found : GoodIn wsX4_home wsX4_found := goodIn_r _ [15, 2, 16, 89, 90, 91, 92, 93, 94, 95] rfl (by decide +kernel)
set_option maxRecDepth 20000 in
theorem gX4_home_X4_found : GoodIn wsX4_home (wsV RX4 51 RX4 yX4_found wsX4_found) := goodIn_app (goodIn_of _ (by decide +kernel)) ggX4_home_X4_found
set_option maxRecDepth 20000 in
theorem ggX4_home_X4_tryOut : GoodIn wsX4_home wsX4_tryOut := goodIn_r _ [20, 21, 1, 22, 23, 24, 8, 25, 26, 27, 28, 29, 10, 30, 31, 32, 33, 34, 35, 36, 37, 38, 89, 90, 91, 92, 93, 94, 95, 96, 97, 98, 99, 100, 101, 102, 103, 104, 105, 106, 107, 108, 109, 110] rfl (by decide +kernel)
set_option maxRecDepth 20000 in
theorem gX4_home_X4_tryOut : GoodIn wsX4_home (wsV RX4 174 RX4 yX4_tryOut wsX4_tryOut) := goodIn_app (goodIn_of _ (by decide +kernel)) ggX4_home_X4_tryOut
set_option maxRecDepth 20000 in
theorem ggX4_home_X3_goOn : GoodIn wsX4_home wsX3_goOn := goodIn_r _ [42, 43, 44, 45, 8, 46, 30, 10, 47, 48, 49, 50, 51, 38, 27, 52, 53, 54, 55, 29, 36, 26, 56, 57, 58, 59, 60, 61, 62, 63, 31, 34, 64, 65, 66, 32, 67, 6, 7, 9, 68, 69, 70, 71, 72, 73, 74, 75, 76, 77, 78, 79, 80, 81, 82, 83, 84, 85, 86, 87, 33, 96, 97, 98, 99, 100, 101, 102, 103, 104, 105, 106, 107, 108, 109, 110] rfl (by decide +kernel)
set_option maxRecDepth 20000 in
theorem gX4_home_X3_goOn : GoodIn wsX4_home (wsV RX4 138 RX3 yX3_goOn wsX3_goOn) := goodIn_app (goodIn_of _ (by decide +kernel)) ggX4_home_X3_goOn
set_option maxRecDepth 20000 in
theorem ggX4_home_X3_isHome : GoodIn wsX4_home wsX3_isHome := goodIn_r _ [79, 38, 67, 6, 7, 8, 9, 10, 96, 97, 98, 99, 100, 101, 102, 103, 104, 105, 106, 107, 108, 109, 110] rfl (by decide +kernel)
set_option maxRecDepth 20000 in
theorem gX4_home_X3_isHome : GoodIn wsX4_home (wsV RX4 120 RX3 yX3_isHome wsX3_isHome) := goodIn_app (goodIn_of _ (by decide +kernel)) ggX4_home_X3_isHome
theorem dX4_home_0 : decode cX4_home 0 = .ok (.aload_n 0, 1) := by decide +kernel
theorem dX4_home_1 : decode cX4_home 1 = .ok (.getfield 10, 3) := by decide +kernel
theorem dX4_home_4 : decode cX4_home 4 = .ok (.iload_n 1, 1) := by decide +kernel
theorem dX4_home_5 : decode cX4_home 5 = .ok (.invokevirtual 73, 3) := by decide +kernel
theorem dX4_home_8 : decode cX4_home 8 = .ok (.ifCond .ne 10, 3) := by decide +kernel
theorem dX4_home_11 : decode cX4_home 11 = .ok (.aload_n 0, 1) := by decide +kernel
theorem dX4_home_12 : decode cX4_home 12 = .ok (.ldc 50, 2) := by decide +kernel
theorem dX4_home_14 : decode cX4_home 14 = .ok (.invokevirtual 51, 3) := by decide +kernel
theorem dX4_home_17 : decode cX4_home 17 = .ok (.ireturn, 1) := by decide +kernel
theorem dX4_home_18 : decode cX4_home 18 = .ok (.aload_n 0, 1) := by decide +kernel
theorem dX4_home_19 : decode cX4_home 19 = .ok (.invokevirtual 174, 3) := by decide +kernel
theorem dX4_home_22 : decode cX4_home 22 = .ok (.astore_n 2, 1) := by decide +kernel
theorem dX4_home_23 : decode cX4_home 23 = .ok (.aload_n 2, 1) := by decide +kernel
theorem dX4_home_24 : decode cX4_home 24 = .ok (.sipush 2000, 3) := by decide +kernel
theorem dX4_home_27 : decode cX4_home 27 = .ok (.invokevirtual 138, 3) := by decide +kernel
theorem dX4_home_30 : decode cX4_home 30 = .ok (.aload_n 2, 1) := by decide +kernel
theorem dX4_home_31 : decode cX4_home 31 = .ok (.iload_n 1, 1) := by decide +kernel
theorem dX4_home_32 : decode cX4_home 32 = .ok (.invokevirtual 120, 3) := by decide +kernel
theorem dX4_home_35 : decode cX4_home 35 = .ok (.ifCond .eq 12, 3) := by decide +kernel
theorem dX4_home_38 : decode cX4_home 38 = .ok (.aload_n 2, 1) := by decide +kernel
theorem dX4_home_39 : decode cX4_home 39 = .ok (.getfield 97, 3) := by decide +kernel
theorem dX4_home_42 : decode cX4_home 42 = .ok (.iload_n 1, 1) := by decide +kernel
theorem dX4_home_43 : decode cX4_home 43 = .ok (.iaload, 1) := by decide +kernel
theorem dX4_home_44 : decode cX4_home 44 = .ok (.goto 9, 3) := by decide +kernel
theorem dX4_home_47 : decode cX4_home 47 = .ok (.aload_n 0, 1) := by decide +kernel
theorem dX4_home_48 : decode cX4_home 48 = .ok (.ldc 178, 2) := by decide +kernel
theorem dX4_home_50 : decode cX4_home 50 = .ok (.invokevirtual 51, 3) := by decide +kernel
theorem dX4_home_53 : decode cX4_home 53 = .ok (.ireturn, 1) := by decide +kernel
set_option maxRecDepth 20000 in
theorem ggX4_prizeBy_X4_isLaw : GoodIn wsX4_prizeBy wsX4_isLaw := goodIn_r _ [5] rfl (by decide +kernel)
set_option maxRecDepth 20000 in
theorem gX4_prizeBy_X4_isLaw : GoodIn wsX4_prizeBy (va_wsS RX4 179 yX4_isLaw wsX4_isLaw) := goodIn_app (goodIn_of _ (by decide +kernel)) ggX4_prizeBy_X4_isLaw
set_option maxRecDepth 20000 in
theorem ggX4_prizeBy_X4_found : GoodIn wsX4_prizeBy wsX4_found := goodIn_r _ [9, 1, 10, 110, 111, 112, 113, 114, 115, 116] rfl (by decide +kernel)
set_option maxRecDepth 20000 in
theorem gX4_prizeBy_X4_found : GoodIn wsX4_prizeBy (wsV RX4 51 RX4 yX4_found wsX4_found) := goodIn_app (goodIn_of _ (by decide +kernel)) ggX4_prizeBy_X4_found
set_option maxRecDepth 20000 in
theorem ggX4_prizeBy_X4_tryOut : GoodIn wsX4_prizeBy wsX4_tryOut := goodIn_r _ [14, 15, 16, 17, 18, 19, 20, 21, 22, 23, 24, 25, 26, 27, 28, 29, 30, 31, 32, 33, 34, 35, 110, 111, 112, 113, 114, 115, 116, 117, 118, 119, 120, 121, 122, 123, 124, 125, 126, 127, 128, 129, 130, 131] rfl (by decide +kernel)
set_option maxRecDepth 20000 in
theorem gX4_prizeBy_X4_tryOut : GoodIn wsX4_prizeBy (wsV RX4 174 RX4 yX4_tryOut wsX4_tryOut) := goodIn_app (goodIn_of _ (by decide +kernel)) ggX4_prizeBy_X4_tryOut
set_option maxRecDepth 20000 in
theorem ggX4_prizeBy_X3_goOn : GoodIn wsX4_prizeBy wsX3_goOn := goodIn_r _ [39, 40, 41, 42, 20, 43, 27, 26, 44, 45, 46, 47, 48, 35, 23, 49, 50, 51, 52, 25, 33, 22, 53, 54, 55, 56, 57, 58, 59, 60, 28, 31, 61, 62, 63, 29, 64, 65, 66, 67, 68, 69, 70, 71, 72, 73, 74, 75, 76, 77, 78, 79, 80, 81, 82, 83, 84, 85, 86, 87, 30, 117, 118, 119, 120, 121, 122, 123, 124, 125, 126, 127, 128, 129, 130, 131] rfl (by decide +kernel)
set_option maxRecDepth 20000 in
theorem gX4_prizeBy_X3_goOn : GoodIn wsX4_prizeBy (wsV RX4 138 RX3 yX3_goOn wsX3_goOn) := goodIn_app (goodIn_of _ (by decide +kernel)) ggX4_prizeBy_X3_goOn
set_option maxRecDepth 20000 in
theorem ggX4_prizeBy_X3_allHome : GoodIn wsX4_prizeBy wsX3_allHome := goodIn_r _ [43, 27, 26, 117, 118, 119, 120, 121, 122, 123, 124, 125, 126, 127, 128, 129, 130, 131] rfl (by decide +kernel)
set_option maxRecDepth 20000 in
theorem gX4_prizeBy_X3_allHome : GoodIn wsX4_prizeBy (wsV RX4 163 RX3 yX3_allHome wsX3_allHome) := goodIn_app (goodIn_of _ (by decide +kernel)) ggX4_prizeBy_X3_allHome
set_option maxRecDepth 20000 in
theorem ggX4_prizeBy_X3_prizeOwner : GoodIn wsX4_prizeBy wsX3_prizeOwner := goodIn_r _ [92, 26, 93, 94, 95, 20, 96, 97, 98, 99, 100, 64, 65, 66, 67, 101, 102, 103, 104, 35, 33, 117, 118, 119, 120, 121, 122, 123, 124, 125, 126, 127, 128, 129, 130, 131] rfl (by decide +kernel)
set_option maxRecDepth 20000 in
theorem gX4_prizeBy_X3_prizeOwner : GoodIn wsX4_prizeBy (wsV RX4 157 RX3 yX3_prizeOwner wsX3_prizeOwner) := goodIn_app (goodIn_of _ (by decide +kernel)) ggX4_prizeBy_X3_prizeOwner
set_option maxRecDepth 20000 in
theorem ggX4_prizeBy_X4_runnerOrNone : GoodIn wsX4_prizeBy wsX4_runnerOrNone := goodIn_r _ [108, 109, 6, 7, 8, 4, 9, 1, 10, 110, 111, 112, 113, 114, 115, 116] rfl (by decide +kernel)
set_option maxRecDepth 20000 in
theorem gX4_prizeBy_X4_runnerOrNone : GoodIn wsX4_prizeBy (wsV RX4 160 RX4 yX4_runnerOrNone wsX4_runnerOrNone) := goodIn_app (goodIn_of _ (by decide +kernel)) ggX4_prizeBy_X4_runnerOrNone
theorem dX4_prizeBy_0 : decode cX4_prizeBy 0 = .ok (.iload_n 1, 1) := by decide +kernel
theorem dX4_prizeBy_1 : decode cX4_prizeBy 1 = .ok (.invokestatic 179, 3) := by decide +kernel
theorem dX4_prizeBy_4 : decode cX4_prizeBy 4 = .ok (.ifCond .ne 10, 3) := by decide +kernel
theorem dX4_prizeBy_7 : decode cX4_prizeBy 7 = .ok (.aload_n 0, 1) := by decide +kernel
theorem dX4_prizeBy_8 : decode cX4_prizeBy 8 = .ok (.ldc 50, 2) := by decide +kernel
theorem dX4_prizeBy_10 : decode cX4_prizeBy 10 = .ok (.invokevirtual 51, 3) := by decide +kernel
theorem dX4_prizeBy_13 : decode cX4_prizeBy 13 = .ok (.ireturn, 1) := by decide +kernel
theorem dX4_prizeBy_14 : decode cX4_prizeBy 14 = .ok (.aload_n 0, 1) := by decide +kernel
theorem dX4_prizeBy_15 : decode cX4_prizeBy 15 = .ok (.invokevirtual 174, 3) := by decide +kernel
theorem dX4_prizeBy_18 : decode cX4_prizeBy 18 = .ok (.astore_n 2, 1) := by decide +kernel
theorem dX4_prizeBy_19 : decode cX4_prizeBy 19 = .ok (.aload_n 2, 1) := by decide +kernel
theorem dX4_prizeBy_20 : decode cX4_prizeBy 20 = .ok (.sipush 2000, 3) := by decide +kernel
theorem dX4_prizeBy_23 : decode cX4_prizeBy 23 = .ok (.invokevirtual 138, 3) := by decide +kernel
theorem dX4_prizeBy_26 : decode cX4_prizeBy 26 = .ok (.aload_n 0, 1) := by decide +kernel
theorem dX4_prizeBy_27 : decode cX4_prizeBy 27 = .ok (.aload_n 2, 1) := by decide +kernel
theorem dX4_prizeBy_28 : decode cX4_prizeBy 28 = .ok (.invokevirtual 163, 3) := by decide +kernel
theorem dX4_prizeBy_31 : decode cX4_prizeBy 31 = .ok (.ifCond .eq 11, 3) := by decide +kernel
theorem dX4_prizeBy_34 : decode cX4_prizeBy 34 = .ok (.aload_n 2, 1) := by decide +kernel
theorem dX4_prizeBy_35 : decode cX4_prizeBy 35 = .ok (.iload_n 1, 1) := by decide +kernel
theorem dX4_prizeBy_36 : decode cX4_prizeBy 36 = .ok (.invokevirtual 157, 3) := by decide +kernel
theorem dX4_prizeBy_39 : decode cX4_prizeBy 39 = .ok (.goto 4, 3) := by decide +kernel
theorem dX4_prizeBy_42 : decode cX4_prizeBy 42 = .ok (.iconst (-1), 1) := by decide +kernel
theorem dX4_prizeBy_43 : decode cX4_prizeBy 43 = .ok (.invokevirtual 160, 3) := by decide +kernel
theorem dX4_prizeBy_46 : decode cX4_prizeBy 46 = .ok (.ireturn, 1) := by decide +kernel
set_option maxRecDepth 20000 in
theorem ggX4_leaders_X4_tryOut : GoodIn wsX4_leaders wsX4_tryOut := goodIn_r _ [5, 6, 7, 8, 9, 10, 11, 12, 13, 14, 15, 16, 17, 18, 19, 20, 21, 22, 23, 24, 25, 26, 76, 77, 78, 79, 80, 81, 82, 83, 84, 85, 86, 87, 88, 89, 90, 91, 92, 93, 94, 95, 96, 97] rfl (by decide +kernel)
set_option maxRecDepth 20000 in
theorem gX4_leaders_X4_tryOut : GoodIn wsX4_leaders (wsV RX4 174 RX4 yX4_tryOut wsX4_tryOut) := goodIn_app (goodIn_of _ (by decide +kernel)) ggX4_leaders_X4_tryOut
set_option maxRecDepth 20000 in
theorem ggX4_leaders_X3_allHome : GoodIn wsX4_leaders wsX3_allHome := goodIn_r _ [30, 18, 17, 83, 84, 85, 86, 87, 88, 89, 90, 91, 92, 93, 94, 95, 96, 97] rfl (by decide +kernel)
set_option maxRecDepth 20000 in
theorem gX4_leaders_X3_allHome : GoodIn wsX4_leaders (wsV RX4 163 RX3 yX3_allHome wsX3_allHome) := goodIn_app (goodIn_of _ (by decide +kernel)) ggX4_leaders_X3_allHome
set_option maxRecDepth 20000 in
theorem ggX4_leaders_X3_firstAlone : GoodIn wsX4_leaders wsX3_firstAlone := goodIn_r _ [34, 17, 26, 24, 83, 84, 85, 86, 87, 88, 89, 90, 91, 92, 93, 94, 95, 96, 97] rfl (by decide +kernel)
set_option maxRecDepth 20000 in
theorem gX4_leaders_X3_firstAlone : GoodIn wsX4_leaders (wsV RX4 124 RX3 yX3_firstAlone wsX3_firstAlone) := goodIn_app (goodIn_of _ (by decide +kernel)) ggX4_leaders_X3_firstAlone
set_option maxRecDepth 20000 in
theorem ggX4_leaders_X3_goSecond : GoodIn wsX4_leaders wsX3_goSecond := goodIn_r _ [38, 17, 39, 26, 14, 40, 41, 42, 43, 16, 24, 13, 18, 44, 32, 33, 11, 34, 45, 46, 47, 48, 19, 22, 49, 50, 51, 20, 52, 53, 54, 55, 56, 57, 58, 59, 60, 61, 62, 63, 64, 65, 66, 67, 68, 69, 70, 71, 72, 73, 74, 75, 21, 83, 84, 85, 86, 87, 88, 89, 90, 91, 92, 93, 94, 95, 96, 97] rfl (by decide +kernel)
set_option maxRecDepth 20000 in
theorem gX4_leaders_X3_goSecond : GoodIn wsX4_leaders (wsV RX4 182 RX3 yX3_goSecond wsX3_goSecond) := goodIn_app (goodIn_of _ (by decide +kernel)) ggX4_leaders_X3_goSecond
theorem dX4_leaders_0 : decode cX4_leaders 0 = .ok (.aload_n 0, 1) := by decide +kernel
theorem dX4_leaders_1 : decode cX4_leaders 1 = .ok (.invokevirtual 174, 3) := by decide +kernel
theorem dX4_leaders_4 : decode cX4_leaders 4 = .ok (.astore_n 1, 1) := by decide +kernel
theorem dX4_leaders_5 : decode cX4_leaders 5 = .ok (.iconst (-1), 1) := by decide +kernel
theorem dX4_leaders_6 : decode cX4_leaders 6 = .ok (.istore_n 2, 1) := by decide +kernel
theorem dX4_leaders_7 : decode cX4_leaders 7 = .ok (.iconst 0, 1) := by decide +kernel
theorem dX4_leaders_8 : decode cX4_leaders 8 = .ok (.istore_n 3, 1) := by decide +kernel
theorem dX4_leaders_9 : decode cX4_leaders 9 = .ok (.iconst 0, 1) := by decide +kernel
theorem dX4_leaders_10 : decode cX4_leaders 10 = .ok (.istore 4, 2) := by decide +kernel
theorem dX4_leaders_12 : decode cX4_leaders 12 = .ok (.iload 4, 2) := by decide +kernel
theorem dX4_leaders_14 : decode cX4_leaders 14 = .ok (.sipush 2000, 3) := by decide +kernel
theorem dX4_leaders_17 : decode cX4_leaders 17 = .ok (.if_icmp .gt 44, 3) := by decide +kernel
theorem dX4_leaders_20 : decode cX4_leaders 20 = .ok (.aload_n 1, 1) := by decide +kernel
theorem dX4_leaders_21 : decode cX4_leaders 21 = .ok (.invokevirtual 163, 3) := by decide +kernel
theorem dX4_leaders_24 : decode cX4_leaders 24 = .ok (.ifCond .ne 37, 3) := by decide +kernel
theorem dX4_leaders_27 : decode cX4_leaders 27 = .ok (.aload_n 1, 1) := by decide +kernel
theorem dX4_leaders_28 : decode cX4_leaders 28 = .ok (.invokevirtual 124, 3) := by decide +kernel
theorem dX4_leaders_31 : decode cX4_leaders 31 = .ok (.istore 5, 2) := by decide +kernel
theorem dX4_leaders_33 : decode cX4_leaders 33 = .ok (.iload 5, 2) := by decide +kernel
theorem dX4_leaders_35 : decode cX4_leaders 35 = .ok (.iconst (-1), 1) := by decide +kernel
theorem dX4_leaders_36 : decode cX4_leaders 36 = .ok (.if_icmp .eq 15, 3) := by decide +kernel
theorem dX4_leaders_39 : decode cX4_leaders 39 = .ok (.iload 5, 2) := by decide +kernel
theorem dX4_leaders_41 : decode cX4_leaders 41 = .ok (.iload_n 2, 1) := by decide +kernel
theorem dX4_leaders_42 : decode cX4_leaders 42 = .ok (.if_icmp .eq 9, 3) := by decide +kernel
theorem dX4_leaders_45 : decode cX4_leaders 45 = .ok (.iload 5, 2) := by decide +kernel
theorem dX4_leaders_47 : decode cX4_leaders 47 = .ok (.istore_n 2, 1) := by decide +kernel
theorem dX4_leaders_48 : decode cX4_leaders 48 = .ok (.iinc 3 1, 3) := by decide +kernel
theorem dX4_leaders_51 : decode cX4_leaders 51 = .ok (.aload_n 1, 1) := by decide +kernel
theorem dX4_leaders_52 : decode cX4_leaders 52 = .ok (.invokevirtual 182, 3) := by decide +kernel
theorem dX4_leaders_55 : decode cX4_leaders 55 = .ok (.iinc 4 1, 3) := by decide +kernel
theorem dX4_leaders_58 : decode cX4_leaders 58 = .ok (.goto (-46), 3) := by decide +kernel
theorem dX4_leaders_61 : decode cX4_leaders 61 = .ok (.iload_n 3, 1) := by decide +kernel
theorem dX4_leaders_62 : decode cX4_leaders 62 = .ok (.ireturn, 1) := by decide +kernel
set_option maxRecDepth 20000 in
theorem ggX4_passes_X3_has : GoodIn wsX4_passes wsX3_has := goodIn_r _ [9, 10, 91, 92, 93, 94, 95, 96, 97, 98, 99, 100, 101, 102, 103, 104, 105] rfl (by decide +kernel)
set_option maxRecDepth 20000 in
theorem gX4_passes_X3_has : GoodIn wsX4_passes (wsV RX4 73 RX3 yX3_has wsX3_has) := goodIn_app (goodIn_of _ (by decide +kernel)) ggX4_passes_X3_has
set_option maxRecDepth 20000 in
theorem ggX4_passes_X4_found : GoodIn wsX4_passes wsX4_found := goodIn_r _ [15, 2, 16, 84, 85, 86, 87, 88, 89, 90] rfl (by decide +kernel)
set_option maxRecDepth 20000 in
theorem gX4_passes_X4_found : GoodIn wsX4_passes (wsV RX4 51 RX4 yX4_found wsX4_found) := goodIn_app (goodIn_of _ (by decide +kernel)) ggX4_passes_X4_found
set_option maxRecDepth 20000 in
theorem ggX4_passes_X4_tryOut : GoodIn wsX4_passes wsX4_tryOut := goodIn_r _ [20, 21, 1, 22, 23, 24, 8, 25, 26, 27, 28, 29, 10, 30, 31, 32, 33, 34, 35, 36, 37, 38, 84, 85, 86, 87, 88, 89, 90, 91, 92, 93, 94, 95, 96, 97, 98, 99, 100, 101, 102, 103, 104, 105] rfl (by decide +kernel)
set_option maxRecDepth 20000 in
theorem gX4_passes_X4_tryOut : GoodIn wsX4_passes (wsV RX4 174 RX4 yX4_tryOut wsX4_tryOut) := goodIn_app (goodIn_of _ (by decide +kernel)) ggX4_passes_X4_tryOut
set_option maxRecDepth 20000 in
theorem ggX4_passes_X3_allHome : GoodIn wsX4_passes wsX3_allHome := goodIn_r _ [42, 30, 10, 91, 92, 93, 94, 95, 96, 97, 98, 99, 100, 101, 102, 103, 104, 105] rfl (by decide +kernel)
set_option maxRecDepth 20000 in
theorem gX4_passes_X3_allHome : GoodIn wsX4_passes (wsV RX4 163 RX3 yX3_allHome wsX3_allHome) := goodIn_app (goodIn_of _ (by decide +kernel)) ggX4_passes_X3_allHome
set_option maxRecDepth 20000 in
theorem ggX4_passes_X3_goSecond : GoodIn wsX4_passes wsX3_goSecond := goodIn_r _ [46, 10, 47, 38, 27, 48, 49, 50, 51, 29, 36, 26, 30, 52, 53, 54, 8, 55, 56, 57, 58, 59, 31, 34, 60, 61, 62, 32, 63, 6, 7, 9, 64, 65, 66, 67, 68, 69, 70, 71, 72, 73, 74, 75, 76, 77, 78, 79, 80, 81, 82, 83, 33, 91, 92, 93, 94, 95, 96, 97, 98, 99, 100, 101, 102, 103, 104, 105] rfl (by decide +kernel)
set_option maxRecDepth 20000 in
theorem gX4_passes_X3_goSecond : GoodIn wsX4_passes (wsV RX4 182 RX3 yX3_goSecond wsX3_goSecond) := goodIn_app (goodIn_of _ (by decide +kernel)) ggX4_passes_X3_goSecond
theorem dX4_passes_0 : decode cX4_passes 0 = .ok (.aload_n 0, 1) := by decide +kernel
theorem dX4_passes_1 : decode cX4_passes 1 = .ok (.getfield 10, 3) := by decide +kernel
theorem dX4_passes_4 : decode cX4_passes 4 = .ok (.iload_n 1, 1) := by decide +kernel
theorem dX4_passes_5 : decode cX4_passes 5 = .ok (.invokevirtual 73, 3) := by decide +kernel
theorem dX4_passes_8 : decode cX4_passes 8 = .ok (.ifCond .eq 19, 3) := by decide +kernel
theorem dX4_passes_11 : decode cX4_passes 11 = .ok (.aload_n 0, 1) := by decide +kernel
theorem dX4_passes_12 : decode cX4_passes 12 = .ok (.getfield 10, 3) := by decide +kernel
theorem dX4_passes_15 : decode cX4_passes 15 = .ok (.iload_n 2, 1) := by decide +kernel
theorem dX4_passes_16 : decode cX4_passes 16 = .ok (.invokevirtual 73, 3) := by decide +kernel
theorem dX4_passes_19 : decode cX4_passes 19 = .ok (.ifCond .eq 8, 3) := by decide +kernel
theorem dX4_passes_22 : decode cX4_passes 22 = .ok (.iload_n 1, 1) := by decide +kernel
theorem dX4_passes_23 : decode cX4_passes 23 = .ok (.iload_n 2, 1) := by decide +kernel
theorem dX4_passes_24 : decode cX4_passes 24 = .ok (.if_icmp .ne 10, 3) := by decide +kernel
theorem dX4_passes_27 : decode cX4_passes 27 = .ok (.aload_n 0, 1) := by decide +kernel
theorem dX4_passes_28 : decode cX4_passes 28 = .ok (.ldc 50, 2) := by decide +kernel
theorem dX4_passes_30 : decode cX4_passes 30 = .ok (.invokevirtual 51, 3) := by decide +kernel
theorem dX4_passes_33 : decode cX4_passes 33 = .ok (.ireturn, 1) := by decide +kernel
theorem dX4_passes_34 : decode cX4_passes 34 = .ok (.aload_n 0, 1) := by decide +kernel
theorem dX4_passes_35 : decode cX4_passes 35 = .ok (.invokevirtual 174, 3) := by decide +kernel
theorem dX4_passes_38 : decode cX4_passes 38 = .ok (.astore_n 3, 1) := by decide +kernel
theorem dX4_passes_39 : decode cX4_passes 39 = .ok (.iconst 0, 1) := by decide +kernel
theorem dX4_passes_40 : decode cX4_passes 40 = .ok (.istore 4, 2) := by decide +kernel
theorem dX4_passes_42 : decode cX4_passes 42 = .ok (.iload 4, 2) := by decide +kernel
theorem dX4_passes_44 : decode cX4_passes 44 = .ok (.sipush 2000, 3) := by decide +kernel
theorem dX4_passes_47 : decode cX4_passes 47 = .ok (.if_icmp .gt 41, 3) := by decide +kernel
theorem dX4_passes_50 : decode cX4_passes 50 = .ok (.aload_n 3, 1) := by decide +kernel
theorem dX4_passes_51 : decode cX4_passes 51 = .ok (.getfield 91, 3) := by decide +kernel
theorem dX4_passes_54 : decode cX4_passes 54 = .ok (.iload_n 1, 1) := by decide +kernel
theorem dX4_passes_55 : decode cX4_passes 55 = .ok (.iaload, 1) := by decide +kernel
theorem dX4_passes_56 : decode cX4_passes 56 = .ok (.aload_n 3, 1) := by decide +kernel
theorem dX4_passes_57 : decode cX4_passes 57 = .ok (.getfield 91, 3) := by decide +kernel
theorem dX4_passes_60 : decode cX4_passes 60 = .ok (.iload_n 2, 1) := by decide +kernel
theorem dX4_passes_61 : decode cX4_passes 61 = .ok (.iaload, 1) := by decide +kernel
theorem dX4_passes_62 : decode cX4_passes 62 = .ok (.if_icmp .le 6, 3) := by decide +kernel
theorem dX4_passes_65 : decode cX4_passes 65 = .ok (.iload 4, 2) := by decide +kernel
theorem dX4_passes_67 : decode cX4_passes 67 = .ok (.ireturn, 1) := by decide +kernel
theorem dX4_passes_68 : decode cX4_passes 68 = .ok (.aload_n 3, 1) := by decide +kernel
theorem dX4_passes_69 : decode cX4_passes 69 = .ok (.invokevirtual 163, 3) := by decide +kernel
theorem dX4_passes_72 : decode cX4_passes 72 = .ok (.ifCond .eq 6, 3) := by decide +kernel
theorem dX4_passes_75 : decode cX4_passes 75 = .ok (.goto 13, 3) := by decide +kernel
theorem dX4_passes_78 : decode cX4_passes 78 = .ok (.aload_n 3, 1) := by decide +kernel
theorem dX4_passes_79 : decode cX4_passes 79 = .ok (.invokevirtual 182, 3) := by decide +kernel
theorem dX4_passes_82 : decode cX4_passes 82 = .ok (.iinc 4 1, 3) := by decide +kernel
theorem dX4_passes_85 : decode cX4_passes 85 = .ok (.goto (-43), 3) := by decide +kernel
theorem dX4_passes_88 : decode cX4_passes 88 = .ok (.aload_n 0, 1) := by decide +kernel
theorem dX4_passes_89 : decode cX4_passes 89 = .ok (.ldc 178, 2) := by decide +kernel
theorem dX4_passes_91 : decode cX4_passes 91 = .ok (.invokevirtual 51, 3) := by decide +kernel
theorem dX4_passes_94 : decode cX4_passes 94 = .ok (.ireturn, 1) := by decide +kernel
set_option maxRecDepth 20000 in
theorem ggX4_race_X4_tryOut : GoodIn wsX4_race wsX4_tryOut := goodIn_r _ [5, 6, 7, 8, 9, 10, 11, 12, 13, 14, 15, 16, 17, 18, 19, 20, 21, 22, 23, 24, 25, 26, 114, 115, 116, 117, 118, 119, 120, 121, 122, 123, 124, 125, 126, 127, 128, 129, 130, 131, 132, 133, 134, 135] rfl (by decide +kernel)
set_option maxRecDepth 20000 in
theorem gX4_race_X4_tryOut : GoodIn wsX4_race (wsV RX4 174 RX4 yX4_tryOut wsX4_tryOut) := goodIn_app (goodIn_of _ (by decide +kernel)) ggX4_race_X4_tryOut
set_option maxRecDepth 20000 in
theorem ggX4_race_X3_raceOwner : GoodIn wsX4_race wsX3_raceOwner := goodIn_r _ [30, 15, 31, 32, 33, 11, 34, 17, 24, 23, 26, 16, 18, 35, 36, 37, 38, 39, 40, 41, 42, 43, 44, 45, 46, 47, 14, 48, 49, 50, 51, 13, 52, 53, 54, 55, 56, 57, 58, 59, 19, 22, 60, 61, 62, 20, 63, 64, 65, 66, 67, 68, 69, 70, 71, 72, 73, 74, 75, 76, 77, 78, 79, 80, 81, 82, 83, 84, 85, 86, 21, 87, 88, 89, 90, 91, 92, 93, 94, 95, 96, 97, 98, 99, 100, 101, 102, 121, 122, 123, 124, 125, 126, 127, 128, 129, 130, 131, 132, 133, 134, 135] rfl (by decide +kernel)
set_option maxRecDepth 20000 in
theorem gX4_race_X3_raceOwner : GoodIn wsX4_race (wsV RX4 185 RX3 yX3_raceOwner wsX3_raceOwner) := goodIn_app (goodIn_of _ (by decide +kernel)) ggX4_race_X3_raceOwner
set_option maxRecDepth 20000 in
theorem ggX4_race_X4_runnerOrNone : GoodIn wsX4_race wsX4_runnerOrNone := goodIn_r _ [106, 107, 108, 109, 110, 4, 111, 112, 113, 114, 115, 116, 117, 118, 119, 120] rfl (by decide +kernel)
set_option maxRecDepth 20000 in
theorem gX4_race_X4_runnerOrNone : GoodIn wsX4_race (wsV RX4 160 RX4 yX4_runnerOrNone wsX4_runnerOrNone) := goodIn_app (goodIn_of _ (by decide +kernel)) ggX4_race_X4_runnerOrNone
theorem dX4_race_0 : decode cX4_race 0 = .ok (.aload_n 0, 1) := by decide +kernel
theorem dX4_race_1 : decode cX4_race 1 = .ok (.aload_n 0, 1) := by decide +kernel
theorem dX4_race_2 : decode cX4_race 2 = .ok (.invokevirtual 174, 3) := by decide +kernel
theorem dX4_race_5 : decode cX4_race 5 = .ok (.invokevirtual 185, 3) := by decide +kernel
theorem dX4_race_8 : decode cX4_race 8 = .ok (.invokevirtual 160, 3) := by decide +kernel
theorem dX4_race_11 : decode cX4_race 11 = .ok (.ireturn, 1) := by decide +kernel
set_option maxRecDepth 20000 in
theorem ggX4_pace_X3_has : GoodIn wsX4_pace wsX3_has := goodIn_r _ [9, 10, 119, 120, 121, 122, 123, 124, 125, 126, 127, 128, 129, 130, 131, 132, 133] rfl (by decide +kernel)
set_option maxRecDepth 20000 in
theorem gX4_pace_X3_has : GoodIn wsX4_pace (wsV RX4 73 RX3 yX3_has wsX3_has) := goodIn_app (goodIn_of _ (by decide +kernel)) ggX4_pace_X3_has
set_option maxRecDepth 20000 in
theorem ggX4_pace_X4_found : GoodIn wsX4_pace wsX4_found := goodIn_r _ [15, 2, 16, 112, 113, 114, 115, 116, 117, 118] rfl (by decide +kernel)
set_option maxRecDepth 20000 in
theorem gX4_pace_X4_found : GoodIn wsX4_pace (wsV RX4 51 RX4 yX4_found wsX4_found) := goodIn_app (goodIn_of _ (by decide +kernel)) ggX4_pace_X4_found
set_option maxRecDepth 20000 in
theorem ggX4_pace_X4_tryOut : GoodIn wsX4_pace wsX4_tryOut := goodIn_r _ [20, 21, 1, 22, 23, 24, 8, 25, 26, 27, 28, 29, 10, 30, 31, 32, 33, 34, 35, 36, 37, 38, 112, 113, 114, 115, 116, 117, 118, 119, 120, 121, 122, 123, 124, 125, 126, 127, 128, 129, 130, 131, 132, 133] rfl (by decide +kernel)
set_option maxRecDepth 20000 in
theorem gX4_pace_X4_tryOut : GoodIn wsX4_pace (wsV RX4 174 RX4 yX4_tryOut wsX4_tryOut) := goodIn_app (goodIn_of _ (by decide +kernel)) ggX4_pace_X4_tryOut
set_option maxRecDepth 20000 in
theorem ggX4_pace_X3_raceOwner : GoodIn wsX4_pace wsX3_raceOwner := goodIn_r _ [42, 28, 43, 44, 45, 8, 46, 10, 36, 35, 38, 29, 30, 47, 48, 49, 50, 51, 52, 53, 54, 55, 56, 57, 58, 59, 27, 60, 61, 62, 63, 26, 64, 65, 66, 67, 68, 69, 70, 71, 31, 34, 72, 73, 74, 32, 75, 6, 7, 9, 76, 77, 78, 79, 80, 81, 82, 83, 84, 85, 86, 87, 88, 89, 90, 91, 92, 93, 94, 95, 33, 96, 97, 98, 99, 100, 101, 102, 103, 104, 105, 106, 107, 108, 109, 110, 111, 119, 120, 121, 122, 123, 124, 125, 126, 127, 128, 129, 130, 131, 132, 133] rfl (by decide +kernel)
set_option maxRecDepth 20000 in
theorem gX4_pace_X3_raceOwner : GoodIn wsX4_pace (wsV RX4 185 RX3 yX3_raceOwner wsX3_raceOwner) := goodIn_app (goodIn_of _ (by decide +kernel)) ggX4_pace_X3_raceOwner
theorem dX4_pace_0 : decode cX4_pace 0 = .ok (.aload_n 0, 1) := by decide +kernel
theorem dX4_pace_1 : decode cX4_pace 1 = .ok (.getfield 10, 3) := by decide +kernel
theorem dX4_pace_4 : decode cX4_pace 4 = .ok (.iload_n 1, 1) := by decide +kernel
theorem dX4_pace_5 : decode cX4_pace 5 = .ok (.invokevirtual 73, 3) := by decide +kernel
theorem dX4_pace_8 : decode cX4_pace 8 = .ok (.ifCond .ne 10, 3) := by decide +kernel
theorem dX4_pace_11 : decode cX4_pace 11 = .ok (.aload_n 0, 1) := by decide +kernel
theorem dX4_pace_12 : decode cX4_pace 12 = .ok (.ldc 50, 2) := by decide +kernel
theorem dX4_pace_14 : decode cX4_pace 14 = .ok (.invokevirtual 51, 3) := by decide +kernel
theorem dX4_pace_17 : decode cX4_pace 17 = .ok (.ireturn, 1) := by decide +kernel
theorem dX4_pace_18 : decode cX4_pace 18 = .ok (.iconst 1, 1) := by decide +kernel
theorem dX4_pace_19 : decode cX4_pace 19 = .ok (.istore_n 2, 1) := by decide +kernel
theorem dX4_pace_20 : decode cX4_pace 20 = .ok (.iload_n 2, 1) := by decide +kernel
theorem dX4_pace_21 : decode cX4_pace 21 = .ok (.bipush 12, 2) := by decide +kernel
theorem dX4_pace_23 : decode cX4_pace 23 = .ok (.if_icmp .gt 31, 3) := by decide +kernel
theorem dX4_pace_26 : decode cX4_pace 26 = .ok (.aload_n 0, 1) := by decide +kernel
theorem dX4_pace_27 : decode cX4_pace 27 = .ok (.invokevirtual 174, 3) := by decide +kernel
theorem dX4_pace_30 : decode cX4_pace 30 = .ok (.astore_n 3, 1) := by decide +kernel
theorem dX4_pace_31 : decode cX4_pace 31 = .ok (.aload_n 3, 1) := by decide +kernel
theorem dX4_pace_32 : decode cX4_pace 32 = .ok (.getfield 79, 3) := by decide +kernel
theorem dX4_pace_35 : decode cX4_pace 35 = .ok (.iload_n 1, 1) := by decide +kernel
theorem dX4_pace_36 : decode cX4_pace 36 = .ok (.iload_n 2, 1) := by decide +kernel
theorem dX4_pace_37 : decode cX4_pace 37 = .ok (.iastore, 1) := by decide +kernel
theorem dX4_pace_38 : decode cX4_pace 38 = .ok (.aload_n 3, 1) := by decide +kernel
theorem dX4_pace_39 : decode cX4_pace 39 = .ok (.invokevirtual 185, 3) := by decide +kernel
theorem dX4_pace_42 : decode cX4_pace 42 = .ok (.iload_n 1, 1) := by decide +kernel
theorem dX4_pace_43 : decode cX4_pace 43 = .ok (.if_icmp .ne 5, 3) := by decide +kernel
theorem dX4_pace_46 : decode cX4_pace 46 = .ok (.iload_n 2, 1) := by decide +kernel
theorem dX4_pace_47 : decode cX4_pace 47 = .ok (.ireturn, 1) := by decide +kernel
theorem dX4_pace_48 : decode cX4_pace 48 = .ok (.iinc 2 1, 3) := by decide +kernel
theorem dX4_pace_51 : decode cX4_pace 51 = .ok (.goto (-31), 3) := by decide +kernel
theorem dX4_pace_54 : decode cX4_pace 54 = .ok (.aload_n 0, 1) := by decide +kernel
theorem dX4_pace_55 : decode cX4_pace 55 = .ok (.ldc 178, 2) := by decide +kernel
theorem dX4_pace_57 : decode cX4_pace 57 = .ok (.invokevirtual 51, 3) := by decide +kernel
theorem dX4_pace_60 : decode cX4_pace 60 = .ok (.ireturn, 1) := by decide +kernel
set_option maxRecDepth 20000 in
theorem ggX4_kind_X3_has : GoodIn wsX4_kind wsX3_has := goodIn_r _ [9, 10, 119, 120, 121, 122, 123, 124, 125, 126, 127, 128, 129, 130, 131, 132, 133] rfl (by decide +kernel)
set_option maxRecDepth 20000 in
theorem gX4_kind_X3_has : GoodIn wsX4_kind (wsV RX4 73 RX3 yX3_has wsX3_has) := goodIn_app (goodIn_of _ (by decide +kernel)) ggX4_kind_X3_has
set_option maxRecDepth 20000 in
theorem ggX4_kind_X4_found : GoodIn wsX4_kind wsX4_found := goodIn_r _ [15, 2, 16, 112, 113, 114, 115, 116, 117, 118] rfl (by decide +kernel)
set_option maxRecDepth 20000 in
theorem gX4_kind_X4_found : GoodIn wsX4_kind (wsV RX4 51 RX4 yX4_found wsX4_found) := goodIn_app (goodIn_of _ (by decide +kernel)) ggX4_kind_X4_found
set_option maxRecDepth 20000 in
theorem ggX4_kind_X4_tryOut : GoodIn wsX4_kind wsX4_tryOut := goodIn_r _ [20, 21, 1, 22, 23, 24, 8, 25, 26, 27, 28, 29, 10, 30, 31, 32, 33, 34, 35, 36, 37, 38, 112, 113, 114, 115, 116, 117, 118, 119, 120, 121, 122, 123, 124, 125, 126, 127, 128, 129, 130, 131, 132, 133] rfl (by decide +kernel)
set_option maxRecDepth 20000 in
theorem gX4_kind_X4_tryOut : GoodIn wsX4_kind (wsV RX4 174 RX4 yX4_tryOut wsX4_tryOut) := goodIn_app (goodIn_of _ (by decide +kernel)) ggX4_kind_X4_tryOut
set_option maxRecDepth 20000 in
theorem ggX4_kind_X3_raceOwner : GoodIn wsX4_kind wsX3_raceOwner := goodIn_r _ [42, 28, 43, 44, 45, 8, 46, 10, 36, 35, 38, 29, 30, 47, 48, 49, 50, 51, 52, 53, 54, 55, 56, 57, 58, 59, 27, 60, 61, 62, 63, 26, 64, 65, 66, 67, 68, 69, 70, 71, 31, 34, 72, 73, 74, 32, 75, 6, 7, 9, 76, 77, 78, 79, 80, 81, 82, 83, 84, 85, 86, 87, 88, 89, 90, 91, 92, 93, 94, 95, 33, 96, 97, 98, 99, 100, 101, 102, 103, 104, 105, 106, 107, 108, 109, 110, 111, 119, 120, 121, 122, 123, 124, 125, 126, 127, 128, 129, 130, 131, 132, 133] rfl (by decide +kernel)
set_option maxRecDepth 20000 in
theorem gX4_kind_X3_raceOwner : GoodIn wsX4_kind (wsV RX4 185 RX3 yX3_raceOwner wsX3_raceOwner) := goodIn_app (goodIn_of _ (by decide +kernel)) ggX4_kind_X3_raceOwner
theorem dX4_kind_0 : decode cX4_kind 0 = .ok (.aload_n 0, 1) := by decide +kernel
theorem dX4_kind_1 : decode cX4_kind 1 = .ok (.getfield 10, 3) := by decide +kernel
theorem dX4_kind_4 : decode cX4_kind 4 = .ok (.iload_n 1, 1) := by decide +kernel
