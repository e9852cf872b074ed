theorem dX5_write_24 : decode cX5_write 24 = .ok (.aload_n 0, 1) := by decide +kernel
theorem dX5_write_25 : decode cX5_write 25 = .ok (.ldc 229, 2) := by decide +kernel
theorem dX5_write_27 : decode cX5_write 27 = .ok (.invokevirtual 40, 3) := by decide +kernel
theorem dX5_write_30 : decode cX5_write 30 = .ok (.i2l, 1) := by decide +kernel
theorem dX5_write_31 : decode cX5_write 31 = .ok (.lreturn, 1) := by decide +kernel
theorem dX5_write_32 : decode cX5_write 32 = .ok (.iload_n 2, 1) := by decide +kernel
theorem dX5_write_33 : decode cX5_write 33 = .ok (.i2l, 1) := by decide +kernel
theorem dX5_write_34 : decode cX5_write 34 = .ok (.lconst 0, 1) := by decide +kernel
theorem dX5_write_35 : decode cX5_write 35 = .ok (.aload_n 0, 1) := by decide +kernel
theorem dX5_write_36 : decode cX5_write 36 = .ok (.getfield 28, 3) := by decide +kernel
theorem dX5_write_39 : decode cX5_write 39 = .ok (.iload_n 1, 1) := by decide +kernel
theorem dX5_write_40 : decode cX5_write 40 = .ok (.iaload, 1) := by decide +kernel
theorem dX5_write_41 : decode cX5_write 41 = .ok (.iconst 1, 1) := by decide +kernel
theorem dX5_write_42 : decode cX5_write 42 = .ok (.isub, 1) := by decide +kernel
theorem dX5_write_43 : decode cX5_write 43 = .ok (.i2l, 1) := by decide +kernel
theorem dX5_write_44 : decode cX5_write 44 = .ok (.invokestatic 50, 3) := by decide +kernel
theorem dX5_write_47 : decode cX5_write 47 = .ok (.ifCond .ne 11, 3) := by decide +kernel
theorem dX5_write_50 : decode cX5_write 50 = .ok (.aload_n 0, 1) := by decide +kernel
theorem dX5_write_51 : decode cX5_write 51 = .ok (.ldc 38, 2) := by decide +kernel
theorem dX5_write_53 : decode cX5_write 53 = .ok (.invokevirtual 40, 3) := by decide +kernel
theorem dX5_write_56 : decode cX5_write 56 = .ok (.i2l, 1) := by decide +kernel
theorem dX5_write_57 : decode cX5_write 57 = .ok (.lreturn, 1) := by decide +kernel
theorem dX5_write_58 : decode cX5_write 58 = .ok (.aload_n 0, 1) := by decide +kernel
theorem dX5_write_59 : decode cX5_write 59 = .ok (.getfield 31, 3) := by decide +kernel
theorem dX5_write_62 : decode cX5_write 62 = .ok (.bipush 40, 2) := by decide +kernel
theorem dX5_write_64 : decode cX5_write 64 = .ok (.iload_n 1, 1) := by decide +kernel
theorem dX5_write_65 : decode cX5_write 65 = .ok (.imul, 1) := by decide +kernel
theorem dX5_write_66 : decode cX5_write 66 = .ok (.iload_n 2, 1) := by decide +kernel
theorem dX5_write_67 : decode cX5_write 67 = .ok (.iadd, 1) := by decide +kernel
theorem dX5_write_68 : decode cX5_write 68 = .ok (.laload, 1) := by decide +kernel
theorem dX5_write_69 : decode cX5_write 69 = .ok (.lstore 5, 2) := by decide +kernel
theorem dX5_write_71 : decode cX5_write 71 = .ok (.aload_n 0, 1) := by decide +kernel
theorem dX5_write_72 : decode cX5_write 72 = .ok (.getfield 31, 3) := by decide +kernel
theorem dX5_write_75 : decode cX5_write 75 = .ok (.bipush 40, 2) := by decide +kernel
theorem dX5_write_77 : decode cX5_write 77 = .ok (.iload_n 1, 1) := by decide +kernel
theorem dX5_write_78 : decode cX5_write 78 = .ok (.imul, 1) := by decide +kernel
theorem dX5_write_79 : decode cX5_write 79 = .ok (.iload_n 2, 1) := by decide +kernel
theorem dX5_write_80 : decode cX5_write 80 = .ok (.iadd, 1) := by decide +kernel
theorem dX5_write_81 : decode cX5_write 81 = .ok (.aload_n 0, 1) := by decide +kernel
theorem dX5_write_82 : decode cX5_write 82 = .ok (.getfield 25, 3) := by decide +kernel
theorem dX5_write_85 : decode cX5_write 85 = .ok (.iload_n 1, 1) := by decide +kernel
theorem dX5_write_86 : decode cX5_write 86 = .ok (.iaload, 1) := by decide +kernel
theorem dX5_write_87 : decode cX5_write 87 = .ok (.lload_n 3, 1) := by decide +kernel
theorem dX5_write_88 : decode cX5_write 88 = .ok (.invokestatic 230, 3) := by decide +kernel
theorem dX5_write_91 : decode cX5_write 91 = .ok (.lastore, 1) := by decide +kernel
theorem dX5_write_92 : decode cX5_write 92 = .ok (.lload 5, 2) := by decide +kernel
theorem dX5_write_94 : decode cX5_write 94 = .ok (.lreturn, 1) := by decide +kernel
set_option maxRecDepth 20000 in
theorem ggX5_copy_X5_isSheet : GoodIn wsX5_copy wsX5_isSheet := goodIn_r _ [10] rfl (by decide +kernel)
set_option maxRecDepth 20000 in
theorem gX5_copy_X5_isSheet : GoodIn wsX5_copy (va_wsS RX5 225 yX5_isSheet wsX5_isSheet) := goodIn_app (goodIn_of _ (by decide +kernel)) ggX5_copy_X5_isSheet
set_option maxRecDepth 20000 in
theorem ggX5_copy_X5_finds : GoodIn wsX5_copy wsX5_finds := goodIn_r _ [14, 15, 1, 16, 17, 18, 19, 20, 21, 22, 23, 24, 25, 26, 27, 28, 29, 30] rfl (by decide +kernel)
set_option maxRecDepth 20000 in
theorem gX5_copy_X5_finds : GoodIn wsX5_copy (wsV RX5 40 RX5 yX5_finds wsX5_finds) := goodIn_app (goodIn_of _ (by decide +kernel)) ggX5_copy_X5_finds
theorem dX5_copy_0 : decode cX5_copy 0 = .ok (.iload_n 1, 1) := by decide +kernel
theorem dX5_copy_1 : decode cX5_copy 1 = .ok (.invokestatic 225, 3) := by decide +kernel
theorem dX5_copy_4 : decode cX5_copy 4 = .ok (.ifCond .eq 10, 3) := by decide +kernel
theorem dX5_copy_7 : decode cX5_copy 7 = .ok (.iload_n 3, 1) := by decide +kernel
theorem dX5_copy_8 : decode cX5_copy 8 = .ok (.invokestatic 225, 3) := by decide +kernel
theorem dX5_copy_11 : decode cX5_copy 11 = .ok (.ifCond .ne 10, 3) := by decide +kernel
theorem dX5_copy_14 : decode cX5_copy 14 = .ok (.aload_n 0, 1) := by decide +kernel
theorem dX5_copy_15 : decode cX5_copy 15 = .ok (.ldc 38, 2) := by decide +kernel
theorem dX5_copy_17 : decode cX5_copy 17 = .ok (.invokevirtual 40, 3) := by decide +kernel
theorem dX5_copy_20 : decode cX5_copy 20 = .ok (.ireturn, 1) := by decide +kernel
theorem dX5_copy_21 : decode cX5_copy 21 = .ok (.aload_n 0, 1) := by decide +kernel
theorem dX5_copy_22 : decode cX5_copy 22 = .ok (.getfield 25, 3) := by decide +kernel
theorem dX5_copy_25 : decode cX5_copy 25 = .ok (.iload_n 1, 1) := by decide +kernel
theorem dX5_copy_26 : decode cX5_copy 26 = .ok (.iaload, 1) := by decide +kernel
theorem dX5_copy_27 : decode cX5_copy 27 = .ok (.ifCond .lt 12, 3) := by decide +kernel
theorem dX5_copy_30 : decode cX5_copy 30 = .ok (.aload_n 0, 1) := by decide +kernel
theorem dX5_copy_31 : decode cX5_copy 31 = .ok (.getfield 25, 3) := by decide +kernel
theorem dX5_copy_34 : decode cX5_copy 34 = .ok (.iload_n 3, 1) := by decide +kernel
theorem dX5_copy_35 : decode cX5_copy 35 = .ok (.iaload, 1) := by decide +kernel
theorem dX5_copy_36 : decode cX5_copy 36 = .ok (.ifCond .ge 10, 3) := by decide +kernel
theorem dX5_copy_39 : decode cX5_copy 39 = .ok (.aload_n 0, 1) := by decide +kernel
theorem dX5_copy_40 : decode cX5_copy 40 = .ok (.ldc 229, 2) := by decide +kernel
theorem dX5_copy_42 : decode cX5_copy 42 = .ok (.invokevirtual 40, 3) := by decide +kernel
theorem dX5_copy_45 : decode cX5_copy 45 = .ok (.ireturn, 1) := by decide +kernel
theorem dX5_copy_46 : decode cX5_copy 46 = .ok (.aload_n 0, 1) := by decide +kernel
theorem dX5_copy_47 : decode cX5_copy 47 = .ok (.getfield 25, 3) := by decide +kernel
theorem dX5_copy_50 : decode cX5_copy 50 = .ok (.iload_n 1, 1) := by decide +kernel
theorem dX5_copy_51 : decode cX5_copy 51 = .ok (.iaload, 1) := by decide +kernel
theorem dX5_copy_52 : decode cX5_copy 52 = .ok (.aload_n 0, 1) := by decide +kernel
theorem dX5_copy_53 : decode cX5_copy 53 = .ok (.getfield 25, 3) := by decide +kernel
theorem dX5_copy_56 : decode cX5_copy 56 = .ok (.iload_n 3, 1) := by decide +kernel
theorem dX5_copy_57 : decode cX5_copy 57 = .ok (.iaload, 1) := by decide +kernel
theorem dX5_copy_58 : decode cX5_copy 58 = .ok (.if_icmp .eq 10, 3) := by decide +kernel
theorem dX5_copy_61 : decode cX5_copy 61 = .ok (.aload_n 0, 1) := by decide +kernel
theorem dX5_copy_62 : decode cX5_copy 62 = .ok (.ldc 101, 2) := by decide +kernel
theorem dX5_copy_64 : decode cX5_copy 64 = .ok (.invokevirtual 40, 3) := by decide +kernel
theorem dX5_copy_67 : decode cX5_copy 67 = .ok (.ireturn, 1) := by decide +kernel
theorem dX5_copy_68 : decode cX5_copy 68 = .ok (.iload_n 2, 1) := by decide +kernel
theorem dX5_copy_69 : decode cX5_copy 69 = .ok (.ifCond .lt 40, 3) := by decide +kernel
theorem dX5_copy_72 : decode cX5_copy 72 = .ok (.iload 4, 2) := by decide +kernel
theorem dX5_copy_74 : decode cX5_copy 74 = .ok (.ifCond .lt 35, 3) := by decide +kernel
theorem dX5_copy_77 : decode cX5_copy 77 = .ok (.iload 5, 2) := by decide +kernel
theorem dX5_copy_79 : decode cX5_copy 79 = .ok (.ifCond .lt 30, 3) := by decide +kernel
theorem dX5_copy_82 : decode cX5_copy 82 = .ok (.iload 5, 2) := by decide +kernel
theorem dX5_copy_84 : decode cX5_copy 84 = .ok (.aload_n 0, 1) := by decide +kernel
theorem dX5_copy_85 : decode cX5_copy 85 = .ok (.getfield 28, 3) := by decide +kernel
theorem dX5_copy_88 : decode cX5_copy 88 = .ok (.iload_n 1, 1) := by decide +kernel
theorem dX5_copy_89 : decode cX5_copy 89 = .ok (.iaload, 1) := by decide +kernel
theorem dX5_copy_90 : decode cX5_copy 90 = .ok (.iload_n 2, 1) := by decide +kernel
theorem dX5_copy_91 : decode cX5_copy 91 = .ok (.isub, 1) := by decide +kernel
theorem dX5_copy_92 : decode cX5_copy 92 = .ok (.if_icmp .gt 17, 3) := by decide +kernel
theorem dX5_copy_95 : decode cX5_copy 95 = .ok (.iload 5, 2) := by decide +kernel
theorem dX5_copy_97 : decode cX5_copy 97 = .ok (.aload_n 0, 1) := by decide +kernel
theorem dX5_copy_98 : decode cX5_copy 98 = .ok (.getfield 28, 3) := by decide +kernel
theorem dX5_copy_101 : decode cX5_copy 101 = .ok (.iload_n 3, 1) := by decide +kernel
theorem dX5_copy_102 : decode cX5_copy 102 = .ok (.iaload, 1) := by decide +kernel
theorem dX5_copy_103 : decode cX5_copy 103 = .ok (.iload 4, 2) := by decide +kernel
theorem dX5_copy_105 : decode cX5_copy 105 = .ok (.isub, 1) := by decide +kernel
theorem dX5_copy_106 : decode cX5_copy 106 = .ok (.if_icmp .le 10, 3) := by decide +kernel
theorem dX5_copy_109 : decode cX5_copy 109 = .ok (.aload_n 0, 1) := by decide +kernel
theorem dX5_copy_110 : decode cX5_copy 110 = .ok (.ldc 38, 2) := by decide +kernel
theorem dX5_copy_112 : decode cX5_copy 112 = .ok (.invokevirtual 40, 3) := by decide +kernel
theorem dX5_copy_115 : decode cX5_copy 115 = .ok (.ireturn, 1) := by decide +kernel
theorem dX5_copy_116 : decode cX5_copy 116 = .ok (.bipush 40, 2) := by decide +kernel
theorem dX5_copy_118 : decode cX5_copy 118 = .ok (.iload_n 1, 1) := by decide +kernel
theorem dX5_copy_119 : decode cX5_copy 119 = .ok (.imul, 1) := by decide +kernel
theorem dX5_copy_120 : decode cX5_copy 120 = .ok (.iload_n 2, 1) := by decide +kernel
theorem dX5_copy_121 : decode cX5_copy 121 = .ok (.iadd, 1) := by decide +kernel
theorem dX5_copy_122 : decode cX5_copy 122 = .ok (.istore 6, 2) := by decide +kernel
theorem dX5_copy_124 : decode cX5_copy 124 = .ok (.bipush 40, 2) := by decide +kernel
theorem dX5_copy_126 : decode cX5_copy 126 = .ok (.iload_n 3, 1) := by decide +kernel
theorem dX5_copy_127 : decode cX5_copy 127 = .ok (.imul, 1) := by decide +kernel
theorem dX5_copy_128 : decode cX5_copy 128 = .ok (.iload 4, 2) := by decide +kernel
theorem dX5_copy_130 : decode cX5_copy 130 = .ok (.iadd, 1) := by decide +kernel
theorem dX5_copy_131 : decode cX5_copy 131 = .ok (.istore 7, 2) := by decide +kernel
theorem dX5_copy_133 : decode cX5_copy 133 = .ok (.iconst 0, 1) := by decide +kernel
theorem dX5_copy_134 : decode cX5_copy 134 = .ok (.istore 8, 2) := by decide +kernel
theorem dX5_copy_136 : decode cX5_copy 136 = .ok (.iload 8, 2) := by decide +kernel
theorem dX5_copy_138 : decode cX5_copy 138 = .ok (.iload 5, 2) := by decide +kernel
theorem dX5_copy_140 : decode cX5_copy 140 = .ok (.if_icmp .ge 50, 3) := by decide +kernel
theorem dX5_copy_143 : decode cX5_copy 143 = .ok (.iload 6, 2) := by decide +kernel
theorem dX5_copy_145 : decode cX5_copy 145 = .ok (.iload 7, 2) := by decide +kernel
theorem dX5_copy_147 : decode cX5_copy 147 = .ok (.if_icmp .ge 13, 3) := by decide +kernel
theorem dX5_copy_150 : decode cX5_copy 150 = .ok (.iload 5, 2) := by decide +kernel
theorem dX5_copy_152 : decode cX5_copy 152 = .ok (.iconst 1, 1) := by decide +kernel
theorem dX5_copy_153 : decode cX5_copy 153 = .ok (.isub, 1) := by decide +kernel
theorem dX5_copy_154 : decode cX5_copy 154 = .ok (.iload 8, 2) := by decide +kernel
theorem dX5_copy_156 : decode cX5_copy 156 = .ok (.isub, 1) := by decide +kernel
theorem dX5_copy_157 : decode cX5_copy 157 = .ok (.goto 5, 3) := by decide +kernel
theorem dX5_copy_160 : decode cX5_copy 160 = .ok (.iload 8, 2) := by decide +kernel
theorem dX5_copy_162 : decode cX5_copy 162 = .ok (.istore 9, 2) := by decide +kernel
theorem dX5_copy_164 : decode cX5_copy 164 = .ok (.aload_n 0, 1) := by decide +kernel
theorem dX5_copy_165 : decode cX5_copy 165 = .ok (.getfield 31, 3) := by decide +kernel
theorem dX5_copy_168 : decode cX5_copy 168 = .ok (.iload 7, 2) := by decide +kernel
theorem dX5_copy_170 : decode cX5_copy 170 = .ok (.iload 9, 2) := by decide +kernel
theorem dX5_copy_172 : decode cX5_copy 172 = .ok (.iadd, 1) := by decide +kernel
theorem dX5_copy_173 : decode cX5_copy 173 = .ok (.aload_n 0, 1) := by decide +kernel
theorem dX5_copy_174 : decode cX5_copy 174 = .ok (.getfield 31, 3) := by decide +kernel
theorem dX5_copy_177 : decode cX5_copy 177 = .ok (.iload 6, 2) := by decide +kernel
theorem dX5_copy_179 : decode cX5_copy 179 = .ok (.iload 9, 2) := by decide +kernel
theorem dX5_copy_181 : decode cX5_copy 181 = .ok (.iadd, 1) := by decide +kernel
theorem dX5_copy_182 : decode cX5_copy 182 = .ok (.laload, 1) := by decide +kernel
theorem dX5_copy_183 : decode cX5_copy 183 = .ok (.lastore, 1) := by decide +kernel
theorem dX5_copy_184 : decode cX5_copy 184 = .ok (.iinc 8 1, 3) := by decide +kernel
theorem dX5_copy_187 : decode cX5_copy 187 = .ok (.goto (-51), 3) := by decide +kernel
theorem dX5_copy_190 : decode cX5_copy 190 = .ok (.iload 5, 2) := by decide +kernel
theorem dX5_copy_192 : decode cX5_copy 192 = .ok (.ireturn, 1) := by decide +kernel
set_option maxRecDepth 20000 in
theorem ggX5_lacks_X5_isSheet : GoodIn wsX5_lacks wsX5_isSheet := goodIn_r _ [7] rfl (by decide +kernel)
set_option maxRecDepth 20000 in
theorem gX5_lacks_X5_isSheet : GoodIn wsX5_lacks (va_wsS RX5 225 yX5_isSheet wsX5_isSheet) := goodIn_app (goodIn_of _ (by decide +kernel)) ggX5_lacks_X5_isSheet
theorem dX5_lacks_0 : decode cX5_lacks 0 = .ok (.iload_n 1, 1) := by decide +kernel
theorem dX5_lacks_1 : decode cX5_lacks 1 = .ok (.invokestatic 225, 3) := by decide +kernel
theorem dX5_lacks_4 : decode cX5_lacks 4 = .ok (.ifCond .ne 8, 3) := by decide +kernel
theorem dX5_lacks_7 : decode cX5_lacks 7 = .ok (.ldc 38, 2) := by decide +kernel
theorem dX5_lacks_9 : decode cX5_lacks 9 = .ok (.goto 18, 3) := by decide +kernel
theorem dX5_lacks_12 : decode cX5_lacks 12 = .ok (.aload_n 0, 1) := by decide +kernel
theorem dX5_lacks_13 : decode cX5_lacks 13 = .ok (.getfield 25, 3) := by decide +kernel
theorem dX5_lacks_16 : decode cX5_lacks 16 = .ok (.iload_n 1, 1) := by decide +kernel
theorem dX5_lacks_17 : decode cX5_lacks 17 = .ok (.iaload, 1) := by decide +kernel
theorem dX5_lacks_18 : decode cX5_lacks 18 = .ok (.ifCond .ge 8, 3) := by decide +kernel
theorem dX5_lacks_21 : decode cX5_lacks 21 = .ok (.ldc 229, 2) := by decide +kernel
theorem dX5_lacks_23 : decode cX5_lacks 23 = .ok (.goto 4, 3) := by decide +kernel
theorem dX5_lacks_26 : decode cX5_lacks 26 = .ok (.iconst 0, 1) := by decide +kernel
theorem dX5_lacks_27 : decode cX5_lacks 27 = .ok (.ireturn, 1) := by decide +kernel
set_option maxRecDepth 20000 in
theorem ggX5_lays_X5_lacks : GoodIn wsX5_lays wsX5_lacks := goodIn_r _ [9, 10, 11, 12, 13, 14, 8, 15, 28, 29, 30, 31, 32, 33, 34, 35, 36, 37, 38, 39, 40, 41, 42] rfl (by decide +kernel)
set_option maxRecDepth 20000 in
theorem gX5_lays_X5_lacks : GoodIn wsX5_lays (wsV RX5 234 RX5 yX5_lacks wsX5_lacks) := goodIn_app (goodIn_of _ (by decide +kernel)) ggX5_lays_X5_lacks
set_option maxRecDepth 20000 in
theorem ggX5_lays_X5_finds : GoodIn wsX5_lays wsX5_finds := goodIn_r _ [19, 20, 10, 28, 29, 30, 31, 32, 33, 34, 35, 36, 37, 38, 39, 40, 41, 42] rfl (by decide +kernel)
set_option maxRecDepth 20000 in
theorem gX5_lays_X5_finds : GoodIn wsX5_lays (wsV RX5 40 RX5 yX5_finds wsX5_finds) := goodIn_app (goodIn_of _ (by decide +kernel)) ggX5_lays_X5_finds
set_option maxRecDepth 20000 in
theorem ggX5_lays_X5_isIn : GoodIn wsX5_lays wsX5_isIn := goodIn_r _ [23] rfl (by decide +kernel)
set_option maxRecDepth 20000 in
theorem gX5_lays_X5_isIn : GoodIn wsX5_lays (va_wsS RX5 50 yX5_isIn wsX5_isIn) := goodIn_app (goodIn_of _ (by decide +kernel)) ggX5_lays_X5_isIn
set_option maxRecDepth 20000 in
theorem ggX5_lays_X5_puts : GoodIn wsX5_lays wsX5_puts := goodIn_r _ [27, 2, 28, 29, 30, 31, 32, 33, 34, 35, 36, 37, 38, 39, 40, 41, 42] rfl (by decide +kernel)
set_option maxRecDepth 20000 in
theorem gX5_lays_X5_puts : GoodIn wsX5_lays (wsV RX5 64 RX5 yX5_puts wsX5_puts) := goodIn_app (goodIn_of _ (by decide +kernel)) ggX5_lays_X5_puts
theorem dX5_lays_0 : decode cX5_lays 0 = .ok (.aload_n 0, 1) := by decide +kernel
theorem dX5_lays_1 : decode cX5_lays 1 = .ok (.iload_n 1, 1) := by decide +kernel
theorem dX5_lays_2 : decode cX5_lays 2 = .ok (.invokevirtual 234, 3) := by decide +kernel
theorem dX5_lays_5 : decode cX5_lays 5 = .ok (.ifCond .eq 13, 3) := by decide +kernel
theorem dX5_lays_8 : decode cX5_lays 8 = .ok (.aload_n 0, 1) := by decide +kernel
theorem dX5_lays_9 : decode cX5_lays 9 = .ok (.aload_n 0, 1) := by decide +kernel
theorem dX5_lays_10 : decode cX5_lays 10 = .ok (.iload_n 1, 1) := by decide +kernel
theorem dX5_lays_11 : decode cX5_lays 11 = .ok (.invokevirtual 234, 3) := by decide +kernel
theorem dX5_lays_14 : decode cX5_lays 14 = .ok (.invokevirtual 40, 3) := by decide +kernel
theorem dX5_lays_17 : decode cX5_lays 17 = .ok (.ireturn, 1) := by decide +kernel
theorem dX5_lays_18 : decode cX5_lays 18 = .ok (.iconst 0, 1) := by decide +kernel
theorem dX5_lays_19 : decode cX5_lays 19 = .ok (.istore_n 2, 1) := by decide +kernel
theorem dX5_lays_20 : decode cX5_lays 20 = .ok (.iconst 0, 1) := by decide +kernel
theorem dX5_lays_21 : decode cX5_lays 21 = .ok (.istore_n 3, 1) := by decide +kernel
theorem dX5_lays_22 : decode cX5_lays 22 = .ok (.iload_n 3, 1) := by decide +kernel
theorem dX5_lays_23 : decode cX5_lays 23 = .ok (.aload_n 0, 1) := by decide +kernel
theorem dX5_lays_24 : decode cX5_lays 24 = .ok (.getfield 28, 3) := by decide +kernel
theorem dX5_lays_27 : decode cX5_lays 27 = .ok (.iload_n 1, 1) := by decide +kernel
theorem dX5_lays_28 : decode cX5_lays 28 = .ok (.iaload, 1) := by decide +kernel
theorem dX5_lays_29 : decode cX5_lays 29 = .ok (.if_icmp .ge 56, 3) := by decide +kernel
theorem dX5_lays_32 : decode cX5_lays 32 = .ok (.iload_n 3, 1) := by decide +kernel
theorem dX5_lays_33 : decode cX5_lays 33 = .ok (.aload_n 0, 1) := by decide +kernel
theorem dX5_lays_34 : decode cX5_lays 34 = .ok (.getfield 7, 3) := by decide +kernel
theorem dX5_lays_37 : decode cX5_lays 37 = .ok (.iconst 0, 1) := by decide +kernel
theorem dX5_lays_38 : decode cX5_lays 38 = .ok (.iaload, 1) := by decide +kernel
theorem dX5_lays_39 : decode cX5_lays 39 = .ok (.if_icmp .ge 46, 3) := by decide +kernel
theorem dX5_lays_42 : decode cX5_lays 42 = .ok (.aload_n 0, 1) := by decide +kernel
theorem dX5_lays_43 : decode cX5_lays 43 = .ok (.getfield 31, 3) := by decide +kernel
theorem dX5_lays_46 : decode cX5_lays 46 = .ok (.bipush 40, 2) := by decide +kernel
theorem dX5_lays_48 : decode cX5_lays 48 = .ok (.iload_n 1, 1) := by decide +kernel
theorem dX5_lays_49 : decode cX5_lays 49 = .ok (.imul, 1) := by decide +kernel
theorem dX5_lays_50 : decode cX5_lays 50 = .ok (.iload_n 3, 1) := by decide +kernel
theorem dX5_lays_51 : decode cX5_lays 51 = .ok (.iadd, 1) := by decide +kernel
theorem dX5_lays_52 : decode cX5_lays 52 = .ok (.laload, 1) := by decide +kernel
theorem dX5_lays_53 : decode cX5_lays 53 = .ok (.lstore 4, 2) := by decide +kernel
theorem dX5_lays_55 : decode cX5_lays 55 = .ok (.lload 4, 2) := by decide +kernel
theorem dX5_lays_57 : decode cX5_lays 57 = .ok (.lconst 1, 1) := by decide +kernel
theorem dX5_lays_58 : decode cX5_lays 58 = .ok (.ldc2_w 70, 3) := by decide +kernel
theorem dX5_lays_61 : decode cX5_lays 61 = .ok (.invokestatic 50, 3) := by decide +kernel
theorem dX5_lays_64 : decode cX5_lays 64 = .ok (.ifCond .eq 15, 3) := by decide +kernel
theorem dX5_lays_67 : decode cX5_lays 67 = .ok (.aload_n 0, 1) := by decide +kernel
theorem dX5_lays_68 : decode cX5_lays 68 = .ok (.iload_n 3, 1) := by decide +kernel
theorem dX5_lays_69 : decode cX5_lays 69 = .ok (.iconst 1, 1) := by decide +kernel
theorem dX5_lays_70 : decode cX5_lays 70 = .ok (.lload 4, 2) := by decide +kernel
theorem dX5_lays_72 : decode cX5_lays 72 = .ok (.l2i, 1) := by decide +kernel
theorem dX5_lays_73 : decode cX5_lays 73 = .ok (.invokevirtual 64, 3) := by decide +kernel
theorem dX5_lays_76 : decode cX5_lays 76 = .ok (.iinc 2 1, 3) := by decide +kernel
theorem dX5_lays_79 : decode cX5_lays 79 = .ok (.iinc 3 1, 3) := by decide +kernel
theorem dX5_lays_82 : decode cX5_lays 82 = .ok (.goto (-60), 3) := by decide +kernel
theorem dX5_lays_85 : decode cX5_lays 85 = .ok (.iload_n 2, 1) := by decide +kernel
theorem dX5_lays_86 : decode cX5_lays 86 = .ok (.ireturn, 1) := by decide +kernel
set_option maxRecDepth 20000 in
theorem ggX5_film_X5_lacks : GoodIn wsX5_film wsX5_lacks := goodIn_r _ [9, 1, 4, 10, 11, 12, 8, 13, 73, 74, 75, 76, 77, 78, 79, 80, 81, 82, 83, 84, 85, 86, 87] rfl (by decide +kernel)
set_option maxRecDepth 20000 in
theorem gX5_film_X5_lacks : GoodIn wsX5_film (wsV RX5 234 RX5 yX5_lacks wsX5_lacks) := goodIn_app (goodIn_of _ (by decide +kernel)) ggX5_film_X5_lacks
set_option maxRecDepth 20000 in
theorem ggX5_film_X5_finds : GoodIn wsX5_film wsX5_finds := goodIn_r _ [17, 18, 1, 73, 74, 75, 76, 77, 78, 79, 80, 81, 82, 83, 84, 85, 86, 87] rfl (by decide +kernel)
set_option maxRecDepth 20000 in
theorem gX5_film_X5_finds : GoodIn wsX5_film (wsV RX5 40 RX5 yX5_finds wsX5_finds) := goodIn_app (goodIn_of _ (by decide +kernel)) ggX5_film_X5_finds
set_option maxRecDepth 20000 in
theorem ggX5_film_X5_isRunner : GoodIn wsX5_film wsX5_isRunner := goodIn_r _ [22, 23, 73, 74, 75, 76, 77, 78, 79, 80, 81, 82, 83, 84, 85, 86, 87] rfl (by decide +kernel)
set_option maxRecDepth 20000 in
theorem gX5_film_X5_isRunner : GoodIn wsX5_film (wsV RX5 86 RX5 yX5_isRunner wsX5_isRunner) := goodIn_app (goodIn_of _ (by decide +kernel)) ggX5_film_X5_isRunner
set_option maxRecDepth 20000 in
theorem ggX5_film_X5_laysBy : GoodIn wsX5_film wsX5_laysBy := goodIn_r _ [27, 28, 23, 73, 74, 75, 76, 77, 78, 79, 80, 81, 82, 83, 84, 85, 86, 87] rfl (by decide +kernel)
set_option maxRecDepth 20000 in
theorem gX5_film_X5_laysBy : GoodIn wsX5_film (wsV RX5 138 RX5 yX5_laysBy wsX5_laysBy) := goodIn_app (goodIn_of _ (by decide +kernel)) ggX5_film_X5_laysBy
set_option maxRecDepth 20000 in
theorem ggX5_film_X5_is : GoodIn wsX5_film wsX5_is := goodIn_r _ [32, 23, 73, 74, 75, 76, 77, 78, 79, 80, 81, 82, 83, 84, 85, 86, 87] rfl (by decide +kernel)
set_option maxRecDepth 20000 in
theorem gX5_film_X5_is : GoodIn wsX5_film (wsV RX5 44 RX5 yX5_is wsX5_is) := goodIn_app (goodIn_of _ (by decide +kernel)) ggX5_film_X5_is
set_option maxRecDepth 20000 in
theorem ggX5_film_X5_narrow : GoodIn wsX5_film wsX5_narrow := goodIn_r _ [35] rfl (by decide +kernel)
set_option maxRecDepth 20000 in
theorem gX5_film_X5_narrow : GoodIn wsX5_film (va_wsS RX5 230 yX5_narrow wsX5_narrow) := goodIn_app (goodIn_of _ (by decide +kernel)) ggX5_film_X5_narrow
set_option maxRecDepth 20000 in
theorem ggX5_film_X5_goesOn : GoodIn wsX5_film wsX5_goesOn := goodIn_r _ [39, 23, 40, 41, 42, 43, 8, 44, 45, 46, 47, 48, 29, 30, 31, 32, 49, 50, 51, 52, 53, 54, 55, 56, 57, 58, 59, 60, 61, 62, 63, 64, 65, 66, 67, 68, 73, 74, 75, 76, 77, 78, 79, 80, 81, 82, 83, 84, 85, 86, 87] rfl (by decide +kernel)
set_option maxRecDepth 20000 in
theorem gX5_film_X5_goesOn : GoodIn wsX5_film (wsV RX5 124 RX5 yX5_goesOn wsX5_goesOn) := goodIn_app (goodIn_of _ (by decide +kernel)) ggX5_film_X5_goesOn
set_option maxRecDepth 20000 in
theorem ggX5_film_X5_laysBack : GoodIn wsX5_film wsX5_laysBack := goodIn_r _ [72, 23, 28, 73, 74, 75, 76, 77, 78, 79, 80, 81, 82, 83, 84, 85, 86, 87] rfl (by decide +kernel)
set_option maxRecDepth 20000 in
theorem gX5_film_X5_laysBack : GoodIn wsX5_film (wsV RX5 145 RX5 yX5_laysBack wsX5_laysBack) := goodIn_app (goodIn_of _ (by decide +kernel)) ggX5_film_X5_laysBack
theorem dX5_film_0 : decode cX5_film 0 = .ok (.aload_n 0, 1) := by decide +kernel
theorem dX5_film_1 : decode cX5_film 1 = .ok (.iload_n 1, 1) := by decide +kernel
theorem dX5_film_2 : decode cX5_film 2 = .ok (.invokevirtual 234, 3) := by decide +kernel
theorem dX5_film_5 : decode cX5_film 5 = .ok (.ifCond .eq 13, 3) := by decide +kernel
theorem dX5_film_8 : decode cX5_film 8 = .ok (.aload_n 0, 1) := by decide +kernel
theorem dX5_film_9 : decode cX5_film 9 = .ok (.aload_n 0, 1) := by decide +kernel
theorem dX5_film_10 : decode cX5_film 10 = .ok (.iload_n 1, 1) := by decide +kernel
theorem dX5_film_11 : decode cX5_film 11 = .ok (.invokevirtual 234, 3) := by decide +kernel
theorem dX5_film_14 : decode cX5_film 14 = .ok (.invokevirtual 40, 3) := by decide +kernel
theorem dX5_film_17 : decode cX5_film 17 = .ok (.ireturn, 1) := by decide +kernel
theorem dX5_film_18 : decode cX5_film 18 = .ok (.aload_n 0, 1) := by decide +kernel
theorem dX5_film_19 : decode cX5_film 19 = .ok (.iload_n 2, 1) := by decide +kernel
theorem dX5_film_20 : decode cX5_film 20 = .ok (.invokevirtual 86, 3) := by decide +kernel
theorem dX5_film_23 : decode cX5_film 23 = .ok (.ifCond .ne 10, 3) := by decide +kernel
theorem dX5_film_26 : decode cX5_film 26 = .ok (.aload_n 0, 1) := by decide +kernel
theorem dX5_film_27 : decode cX5_film 27 = .ok (.ldc 38, 2) := by decide +kernel
theorem dX5_film_29 : decode cX5_film 29 = .ok (.invokevirtual 40, 3) := by decide +kernel
theorem dX5_film_32 : decode cX5_film 32 = .ok (.ireturn, 1) := by decide +kernel
theorem dX5_film_33 : decode cX5_film 33 = .ok (.aload_n 0, 1) := by decide +kernel
theorem dX5_film_34 : decode cX5_film 34 = .ok (.invokevirtual 138, 3) := by decide +kernel
theorem dX5_film_37 : decode cX5_film 37 = .ok (.iconst 0, 1) := by decide +kernel
theorem dX5_film_38 : decode cX5_film 38 = .ok (.istore_n 3, 1) := by decide +kernel
theorem dX5_film_39 : decode cX5_film 39 = .ok (.iload_n 3, 1) := by decide +kernel
theorem dX5_film_40 : decode cX5_film 40 = .ok (.aload_n 0, 1) := by decide +kernel
theorem dX5_film_41 : decode cX5_film 41 = .ok (.getfield 28, 3) := by decide +kernel
theorem dX5_film_44 : decode cX5_film 44 = .ok (.iload_n 1, 1) := by decide +kernel
theorem dX5_film_45 : decode cX5_film 45 = .ok (.iaload, 1) := by decide +kernel
theorem dX5_film_46 : decode cX5_film 46 = .ok (.if_icmp .ge 42, 3) := by decide +kernel
theorem dX5_film_49 : decode cX5_film 49 = .ok (.aload_n 0, 1) := by decide +kernel
theorem dX5_film_50 : decode cX5_film 50 = .ok (.getfield 31, 3) := by decide +kernel
theorem dX5_film_53 : decode cX5_film 53 = .ok (.bipush 40, 2) := by decide +kernel
theorem dX5_film_55 : decode cX5_film 55 = .ok (.iload_n 1, 1) := by decide +kernel
theorem dX5_film_56 : decode cX5_film 56 = .ok (.imul, 1) := by decide +kernel
theorem dX5_film_57 : decode cX5_film 57 = .ok (.iload_n 3, 1) := by decide +kernel
theorem dX5_film_58 : decode cX5_film 58 = .ok (.iadd, 1) := by decide +kernel
theorem dX5_film_59 : decode cX5_film 59 = .ok (.aload_n 0, 1) := by decide +kernel
theorem dX5_film_60 : decode cX5_film 60 = .ok (.getfield 25, 3) := by decide +kernel
theorem dX5_film_63 : decode cX5_film 63 = .ok (.iload_n 1, 1) := by decide +kernel
theorem dX5_film_64 : decode cX5_film 64 = .ok (.iaload, 1) := by decide +kernel
theorem dX5_film_65 : decode cX5_film 65 = .ok (.aload_n 0, 1) := by decide +kernel
theorem dX5_film_66 : decode cX5_film 66 = .ok (.iload_n 2, 1) := by decide +kernel
theorem dX5_film_67 : decode cX5_film 67 = .ok (.iconst 5, 1) := by decide +kernel
theorem dX5_film_68 : decode cX5_film 68 = .ok (.invokevirtual 44, 3) := by decide +kernel
theorem dX5_film_71 : decode cX5_film 71 = .ok (.i2l, 1) := by decide +kernel
theorem dX5_film_72 : decode cX5_film 72 = .ok (.invokestatic 230, 3) := by decide +kernel
theorem dX5_film_75 : decode cX5_film 75 = .ok (.lastore, 1) := by decide +kernel
theorem dX5_film_76 : decode cX5_film 76 = .ok (.aload_n 0, 1) := by decide +kernel
theorem dX5_film_77 : decode cX5_film 77 = .ok (.invokevirtual 124, 3) := by decide +kernel
theorem dX5_film_80 : decode cX5_film 80 = .ok (.istore 4, 2) := by decide +kernel
theorem dX5_film_82 : decode cX5_film 82 = .ok (.iinc 3 1, 3) := by decide +kernel
theorem dX5_film_85 : decode cX5_film 85 = .ok (.goto (-46), 3) := by decide +kernel
theorem dX5_film_88 : decode cX5_film 88 = .ok (.aload_n 0, 1) := by decide +kernel
theorem dX5_film_89 : decode cX5_film 89 = .ok (.invokevirtual 145, 3) := by decide +kernel
theorem dX5_film_92 : decode cX5_film 92 = .ok (.aload_n 0, 1) := by decide +kernel
theorem dX5_film_93 : decode cX5_film 93 = .ok (.getfield 28, 3) := by decide +kernel
theorem dX5_film_96 : decode cX5_film 96 = .ok (.iload_n 1, 1) := by decide +kernel
theorem dX5_film_97 : decode cX5_film 97 = .ok (.iaload, 1) := by decide +kernel
theorem dX5_film_98 : decode cX5_film 98 = .ok (.ireturn, 1) := by decide +kernel
set_option maxRecDepth 20000 in
theorem ggX5_read_X5_lacks : GoodIn wsX5_read wsX5_lacks := goodIn_r _ [9, 10, 11, 12, 13, 14, 8, 15, 67, 68, 69, 70, 71, 72, 73, 74, 75, 76, 77, 78, 79, 80, 81] rfl (by decide +kernel)
set_option maxRecDepth 20000 in
theorem gX5_read_X5_lacks : GoodIn wsX5_read (wsV RX5 234 RX5 yX5_lacks wsX5_lacks) := goodIn_app (goodIn_of _ (by decide +kernel)) ggX5_read_X5_lacks
set_option maxRecDepth 20000 in
theorem ggX5_read_X5_finds : GoodIn wsX5_read wsX5_finds := goodIn_r _ [19, 20, 10, 67, 68, 69, 70, 71, 72, 73, 74, 75, 76, 77, 78, 79, 80, 81] rfl (by decide +kernel)
set_option maxRecDepth 20000 in
theorem gX5_read_X5_finds : GoodIn wsX5_read (wsV RX5 40 RX5 yX5_finds wsX5_finds) := goodIn_app (goodIn_of _ (by decide +kernel)) ggX5_read_X5_finds
set_option maxRecDepth 20000 in
theorem ggX5_read_X5_laysBy : GoodIn wsX5_read wsX5_laysBy := goodIn_r _ [24, 25, 1, 67, 68, 69, 70, 71, 72, 73, 74, 75, 76, 77, 78, 79, 80, 81] rfl (by decide +kernel)
set_option maxRecDepth 20000 in
theorem gX5_read_X5_laysBy : GoodIn wsX5_read (wsV RX5 138 RX5 yX5_laysBy wsX5_laysBy) := goodIn_app (goodIn_of _ (by decide +kernel)) ggX5_read_X5_laysBy
set_option maxRecDepth 20000 in
theorem ggX5_read_X5_is : GoodIn wsX5_read wsX5_is := goodIn_r _ [29, 1, 67, 68, 69, 70, 71, 72, 73, 74, 75, 76, 77, 78, 79, 80, 81] rfl (by decide +kernel)
set_option maxRecDepth 20000 in
theorem gX5_read_X5_is : GoodIn wsX5_read (wsV RX5 44 RX5 yX5_is wsX5_is) := goodIn_app (goodIn_of _ (by decide +kernel)) ggX5_read_X5_is
set_option maxRecDepth 20000 in
theorem ggX5_read_X5_goesOn : GoodIn wsX5_read wsX5_goesOn := goodIn_r _ [33, 1, 34, 35, 36, 37, 8, 38, 39, 40, 41, 42, 26, 27, 28, 29, 43, 44, 45, 46, 47, 48, 49, 50, 51, 52, 53, 54, 55, 56, 57, 58, 59, 60, 61, 62, 67, 68, 69, 70, 71, 72, 73, 74, 75, 76, 77, 78, 79, 80, 81] rfl (by decide +kernel)
set_option maxRecDepth 20000 in
theorem gX5_read_X5_goesOn : GoodIn wsX5_read (wsV RX5 124 RX5 yX5_goesOn wsX5_goesOn) := goodIn_app (goodIn_of _ (by decide +kernel)) ggX5_read_X5_goesOn
set_option maxRecDepth 20000 in
theorem ggX5_read_X5_laysBack : GoodIn wsX5_read wsX5_laysBack := goodIn_r _ [66, 1, 25, 67, 68, 69, 70, 71, 72, 73, 74, 75, 76, 77, 78, 79, 80, 81] rfl (by decide +kernel)
set_option maxRecDepth 20000 in
theorem gX5_read_X5_laysBack : GoodIn wsX5_read (wsV RX5 145 RX5 yX5_laysBack wsX5_laysBack) := goodIn_app (goodIn_of _ (by decide +kernel)) ggX5_read_X5_laysBack
theorem dX5_read_0 : decode cX5_read 0 = .ok (.aload_n 0, 1) := by decide +kernel
theorem dX5_read_1 : decode cX5_read 1 = .ok (.iload_n 1, 1) := by decide +kernel
theorem dX5_read_2 : decode cX5_read 2 = .ok (.invokevirtual 234, 3) := by decide +kernel
theorem dX5_read_5 : decode cX5_read 5 = .ok (.ifCond .eq 13, 3) := by decide +kernel
theorem dX5_read_8 : decode cX5_read 8 = .ok (.aload_n 0, 1) := by decide +kernel
theorem dX5_read_9 : decode cX5_read 9 = .ok (.aload_n 0, 1) := by decide +kernel
theorem dX5_read_10 : decode cX5_read 10 = .ok (.iload_n 1, 1) := by decide +kernel
theorem dX5_read_11 : decode cX5_read 11 = .ok (.invokevirtual 234, 3) := by decide +kernel
theorem dX5_read_14 : decode cX5_read 14 = .ok (.invokevirtual 40, 3) := by decide +kernel
theorem dX5_read_17 : decode cX5_read 17 = .ok (.ireturn, 1) := by decide +kernel
theorem dX5_read_18 : decode cX5_read 18 = .ok (.aload_n 0, 1) := by decide +kernel
theorem dX5_read_19 : decode cX5_read 19 = .ok (.invokevirtual 138, 3) := by decide +kernel
theorem dX5_read_22 : decode cX5_read 22 = .ok (.iconst 1, 1) := by decide +kernel
theorem dX5_read_23 : decode cX5_read 23 = .ok (.aload_n 0, 1) := by decide +kernel
theorem dX5_read_24 : decode cX5_read 24 = .ok (.getfield 7, 3) := by decide +kernel
theorem dX5_read_27 : decode cX5_read 27 = .ok (.iconst 0, 1) := by decide +kernel
theorem dX5_read_28 : decode cX5_read 28 = .ok (.iaload, 1) := by decide +kernel
theorem dX5_read_29 : decode cX5_read 29 = .ok (.ishl, 1) := by decide +kernel
theorem dX5_read_30 : decode cX5_read 30 = .ok (.iconst 1, 1) := by decide +kernel
theorem dX5_read_31 : decode cX5_read 31 = .ok (.isub, 1) := by decide +kernel
theorem dX5_read_32 : decode cX5_read 32 = .ok (.istore_n 2, 1) := by decide +kernel
theorem dX5_read_33 : decode cX5_read 33 = .ok (.iconst 0, 1) := by decide +kernel
theorem dX5_read_34 : decode cX5_read 34 = .ok (.istore_n 3, 1) := by decide +kernel
theorem dX5_read_35 : decode cX5_read 35 = .ok (.iload_n 3, 1) := by decide +kernel
theorem dX5_read_36 : decode cX5_read 36 = .ok (.aload_n 0, 1) := by decide +kernel
theorem dX5_read_37 : decode cX5_read 37 = .ok (.getfield 28, 3) := by decide +kernel
theorem dX5_read_40 : decode cX5_read 40 = .ok (.iload_n 1, 1) := by decide +kernel
theorem dX5_read_41 : decode cX5_read 41 = .ok (.iaload, 1) := by decide +kernel
theorem dX5_read_42 : decode cX5_read 42 = .ok (.if_icmp .ge 71, 3) := by decide +kernel
theorem dX5_read_45 : decode cX5_read 45 = .ok (.iconst 0, 1) := by decide +kernel
theorem dX5_read_46 : decode cX5_read 46 = .ok (.istore 4, 2) := by decide +kernel
theorem dX5_read_48 : decode cX5_read 48 = .ok (.iload 4, 2) := by decide +kernel
theorem dX5_read_50 : decode cX5_read 50 = .ok (.aload_n 0, 1) := by decide +kernel
theorem dX5_read_51 : decode cX5_read 51 = .ok (.getfield 7, 3) := by decide +kernel
theorem dX5_read_54 : decode cX5_read 54 = .ok (.iconst 0, 1) := by decide +kernel
theorem dX5_read_55 : decode cX5_read 55 = .ok (.iaload, 1) := by decide +kernel
theorem dX5_read_56 : decode cX5_read 56 = .ok (.if_icmp .ge 45, 3) := by decide +kernel
theorem dX5_read_59 : decode cX5_read 59 = .ok (.iload_n 2, 1) := by decide +kernel
theorem dX5_read_60 : decode cX5_read 60 = .ok (.aload_n 0, 1) := by decide +kernel
theorem dX5_read_61 : decode cX5_read 61 = .ok (.getfield 31, 3) := by decide +kernel
theorem dX5_read_64 : decode cX5_read 64 = .ok (.bipush 40, 2) := by decide +kernel
theorem dX5_read_66 : decode cX5_read 66 = .ok (.iload_n 1, 1) := by decide +kernel
theorem dX5_read_67 : decode cX5_read 67 = .ok (.imul, 1) := by decide +kernel
theorem dX5_read_68 : decode cX5_read 68 = .ok (.iload_n 3, 1) := by decide +kernel
theorem dX5_read_69 : decode cX5_read 69 = .ok (.iadd, 1) := by decide +kernel
theorem dX5_read_70 : decode cX5_read 70 = .ok (.laload, 1) := by decide +kernel
theorem dX5_read_71 : decode cX5_read 71 = .ok (.aload_n 0, 1) := by decide +kernel
theorem dX5_read_72 : decode cX5_read 72 = .ok (.iload 4, 2) := by decide +kernel
theorem dX5_read_74 : decode cX5_read 74 = .ok (.iconst 5, 1) := by decide +kernel
theorem dX5_read_75 : decode cX5_read 75 = .ok (.invokevirtual 44, 3) := by decide +kernel
theorem dX5_read_78 : decode cX5_read 78 = .ok (.i2l, 1) := by decide +kernel
theorem dX5_read_79 : decode cX5_read 79 = .ok (.lcmp, 1) := by decide +kernel
theorem dX5_read_80 : decode cX5_read 80 = .ok (.ifCond .ne 7, 3) := by decide +kernel
theorem dX5_read_83 : decode cX5_read 83 = .ok (.iconst (-1), 1) := by decide +kernel
theorem dX5_read_84 : decode cX5_read 84 = .ok (.goto 9, 3) := by decide +kernel
theorem dX5_read_87 : decode cX5_read 87 = .ok (.iconst 1, 1) := by decide +kernel
theorem dX5_read_88 : decode cX5_read 88 = .ok (.iload 4, 2) := by decide +kernel
theorem dX5_read_90 : decode cX5_read 90 = .ok (.ishl, 1) := by decide +kernel
theorem dX5_read_91 : decode cX5_read 91 = .ok (.iconst (-1), 1) := by decide +kernel
theorem dX5_read_92 : decode cX5_read 92 = .ok (.ixor, 1) := by decide +kernel
theorem dX5_read_93 : decode cX5_read 93 = .ok (.iand, 1) := by decide +kernel
theorem dX5_read_94 : decode cX5_read 94 = .ok (.istore_n 2, 1) := by decide +kernel
theorem dX5_read_95 : decode cX5_read 95 = .ok (.iinc 4 1, 3) := by decide +kernel
theorem dX5_read_98 : decode cX5_read 98 = .ok (.goto (-50), 3) := by decide +kernel
theorem dX5_read_101 : decode cX5_read 101 = .ok (.aload_n 0, 1) := by decide +kernel
theorem dX5_read_102 : decode cX5_read 102 = .ok (.invokevirtual 124, 3) := by decide +kernel
theorem dX5_read_105 : decode cX5_read 105 = .ok (.istore 4, 2) := by decide +kernel
theorem dX5_read_107 : decode cX5_read 107 = .ok (.iinc 3 1, 3) := by decide +kernel
theorem dX5_read_110 : decode cX5_read 110 = .ok (.goto (-75), 3) := by decide +kernel
theorem dX5_read_113 : decode cX5_read 113 = .ok (.aload_n 0, 1) := by decide +kernel
theorem dX5_read_114 : decode cX5_read 114 = .ok (.invokevirtual 145, 3) := by decide +kernel
theorem dX5_read_117 : decode cX5_read 117 = .ok (.iconst 0, 1) := by decide +kernel
theorem dX5_read_118 : decode cX5_read 118 = .ok (.istore_n 3, 1) := by decide +kernel
theorem dX5_read_119 : decode cX5_read 119 = .ok (.iload_n 3, 1) := by decide +kernel
theorem dX5_read_120 : decode cX5_read 120 = .ok (.aload_n 0, 1) := by decide +kernel
theorem dX5_read_121 : decode cX5_read 121 = .ok (.getfield 7, 3) := by decide +kernel
theorem dX5_read_124 : decode cX5_read 124 = .ok (.iconst 0, 1) := by decide +kernel
theorem dX5_read_125 : decode cX5_read 125 = .ok (.iaload, 1) := by decide +kernel
theorem dX5_read_126 : decode cX5_read 126 = .ok (.if_icmp .ge 20, 3) := by decide +kernel
theorem dX5_read_129 : decode cX5_read 129 = .ok (.iload_n 2, 1) := by decide +kernel
theorem dX5_read_130 : decode cX5_read 130 = .ok (.iload_n 3, 1) := by decide +kernel
theorem dX5_read_131 : decode cX5_read 131 = .ok (.ishr, 1) := by decide +kernel
theorem dX5_read_132 : decode cX5_read 132 = .ok (.iconst 1, 1) := by decide +kernel
theorem dX5_read_133 : decode cX5_read 133 = .ok (.iand, 1) := by decide +kernel
theorem dX5_read_134 : decode cX5_read 134 = .ok (.iconst 1, 1) := by decide +kernel
theorem dX5_read_135 : decode cX5_read 135 = .ok (.if_icmp .ne 5, 3) := by decide +kernel
theorem dX5_read_138 : decode cX5_read 138 = .ok (.iload_n 3, 1) := by decide +kernel
theorem dX5_read_139 : decode cX5_read 139 = .ok (.ireturn, 1) := by decide +kernel
theorem dX5_read_140 : decode cX5_read 140 = .ok (.iinc 3 1, 3) := by decide +kernel
theorem dX5_read_143 : decode cX5_read 143 = .ok (.goto (-24), 3) := by decide +kernel
theorem dX5_read_146 : decode cX5_read 146 = .ok (.aload_n 0, 1) := by decide +kernel
theorem dX5_read_147 : decode cX5_read 147 = .ok (.ldc 39, 2) := by decide +kernel
theorem dX5_read_149 : decode cX5_read 149 = .ok (.invokevirtual 40, 3) := by decide +kernel
theorem dX5_read_152 : decode cX5_read 152 = .ok (.ireturn, 1) := by decide +kernel
theorem dX5_image_0 : decode cX5_image 0 = .ok (.iconst 0, 1) := by decide +kernel
theorem dX5_image_1 : decode cX5_image 1 = .ok (.istore_n 1, 1) := by decide +kernel
theorem dX5_image_2 : decode cX5_image 2 = .ok (.iload_n 1, 1) := by decide +kernel
theorem dX5_image_3 : decode cX5_image 3 = .ok (.bipush 77, 2) := by decide +kernel
theorem dX5_image_5 : decode cX5_image 5 = .ok (.if_icmp .ge 21, 3) := by decide +kernel
theorem dX5_image_8 : decode cX5_image 8 = .ok (.aload_n 0, 1) := by decide +kernel
theorem dX5_image_9 : decode cX5_image 9 = .ok (.getfield 13, 3) := by decide +kernel
theorem dX5_image_12 : decode cX5_image 12 = .ok (.iload_n 1, 1) := by decide +kernel
theorem dX5_image_13 : decode cX5_image 13 = .ok (.aload_n 0, 1) := by decide +kernel
theorem dX5_image_14 : decode cX5_image 14 = .ok (.getfield 7, 3) := by decide +kernel
theorem dX5_image_17 : decode cX5_image 17 = .ok (.iload_n 1, 1) := by decide +kernel
theorem dX5_image_18 : decode cX5_image 18 = .ok (.iaload, 1) := by decide +kernel
theorem dX5_image_19 : decode cX5_image 19 = .ok (.iastore, 1) := by decide +kernel
theorem dX5_image_20 : decode cX5_image 20 = .ok (.iinc 1 1, 3) := by decide +kernel
theorem dX5_image_23 : decode cX5_image 23 = .ok (.goto (-21), 3) := by decide +kernel
theorem dX5_image_26 : decode cX5_image 26 = .ok (.aload_n 0, 1) := by decide +kernel
theorem dX5_image_27 : decode cX5_image 27 = .ok (.iconst 1, 1) := by decide +kernel
theorem dX5_image_28 : decode cX5_image 28 = .ok (.putfield 237, 3) := by decide +kernel
theorem dX5_image_31 : decode cX5_image 31 = .ok (.iconst 1, 1) := by decide +kernel
theorem dX5_image_32 : decode cX5_image 32 = .ok (.ireturn, 1) := by decide +kernel
set_option maxRecDepth 20000 in
theorem ggX5_undo_X5_finds : GoodIn wsX5_undo wsX5_finds := goodIn_r _ [9, 10, 11, 12, 13, 14, 15, 16, 17, 18, 19, 20, 21, 22, 23, 24, 25, 26] rfl (by decide +kernel)
set_option maxRecDepth 20000 in
theorem gX5_undo_X5_finds : GoodIn wsX5_undo (wsV RX5 40 RX5 yX5_finds wsX5_finds) := goodIn_app (goodIn_of _ (by decide +kernel)) ggX5_undo_X5_finds
theorem dX5_undo_0 : decode cX5_undo 0 = .ok (.aload_n 0, 1) := by decide +kernel
theorem dX5_undo_1 : decode cX5_undo 1 = .ok (.getfield 237, 3) := by decide +kernel
theorem dX5_undo_4 : decode cX5_undo 4 = .ok (.ifCond .ne 10, 3) := by decide +kernel
theorem dX5_undo_7 : decode cX5_undo 7 = .ok (.aload_n 0, 1) := by decide +kernel
theorem dX5_undo_8 : decode cX5_undo 8 = .ok (.ldc 39, 2) := by decide +kernel
theorem dX5_undo_10 : decode cX5_undo 10 = .ok (.invokevirtual 40, 3) := by decide +kernel
theorem dX5_undo_13 : decode cX5_undo 13 = .ok (.ireturn, 1) := by decide +kernel
theorem dX5_undo_14 : decode cX5_undo 14 = .ok (.iconst 0, 1) := by decide +kernel
theorem dX5_undo_15 : decode cX5_undo 15 = .ok (.istore_n 1, 1) := by decide +kernel
theorem dX5_undo_16 : decode cX5_undo 16 = .ok (.iload_n 1, 1) := by decide +kernel
theorem dX5_undo_17 : decode cX5_undo 17 = .ok (.bipush 77, 2) := by decide +kernel
theorem dX5_undo_19 : decode cX5_undo 19 = .ok (.if_icmp .ge 21, 3) := by decide +kernel
theorem dX5_undo_22 : decode cX5_undo 22 = .ok (.aload_n 0, 1) := by decide +kernel
theorem dX5_undo_23 : decode cX5_undo 23 = .ok (.getfield 7, 3) := by decide +kernel
theorem dX5_undo_26 : decode cX5_undo 26 = .ok (.iload_n 1, 1) := by decide +kernel
theorem dX5_undo_27 : decode cX5_undo 27 = .ok (.aload_n 0, 1) := by decide +kernel
theorem dX5_undo_28 : decode cX5_undo 28 = .ok (.getfield 13, 3) := by decide +kernel
theorem dX5_undo_31 : decode cX5_undo 31 = .ok (.iload_n 1, 1) := by decide +kernel
theorem dX5_undo_32 : decode cX5_undo 32 = .ok (.iaload, 1) := by decide +kernel
theorem dX5_undo_33 : decode cX5_undo 33 = .ok (.iastore, 1) := by decide +kernel
theorem dX5_undo_34 : decode cX5_undo 34 = .ok (.iinc 1 1, 3) := by decide +kernel
theorem dX5_undo_37 : decode cX5_undo 37 = .ok (.goto (-21), 3) := by decide +kernel
theorem dX5_undo_40 : decode cX5_undo 40 = .ok (.aload_n 0, 1) := by decide +kernel
theorem dX5_undo_41 : decode cX5_undo 41 = .ok (.getfield 7, 3) := by decide +kernel
theorem dX5_undo_44 : decode cX5_undo 44 = .ok (.iconst 0, 1) := by decide +kernel
theorem dX5_undo_45 : decode cX5_undo 45 = .ok (.iaload, 1) := by decide +kernel
theorem dX5_undo_46 : decode cX5_undo 46 = .ok (.ireturn, 1) := by decide +kernel
theorem dX5_tear_0 : decode cX5_tear 0 = .ok (.aload_n 0, 1) := by decide +kernel
theorem dX5_tear_1 : decode cX5_tear 1 = .ok (.getfield 237, 3) := by decide +kernel
theorem dX5_tear_4 : decode cX5_tear 4 = .ok (.istore_n 1, 1) := by decide +kernel
theorem dX5_tear_5 : decode cX5_tear 5 = .ok (.aload_n 0, 1) := by decide +kernel
theorem dX5_tear_6 : decode cX5_tear 6 = .ok (.iconst 0, 1) := by decide +kernel
theorem dX5_tear_7 : decode cX5_tear 7 = .ok (.putfield 237, 3) := by decide +kernel
theorem dX5_tear_10 : decode cX5_tear 10 = .ok (.iload_n 1, 1) := by decide +kernel
theorem dX5_tear_11 : decode cX5_tear 11 = .ok (.ifCond .eq 7, 3) := by decide +kernel
theorem dX5_tear_14 : decode cX5_tear 14 = .ok (.iconst 1, 1) := by decide +kernel
theorem dX5_tear_15 : decode cX5_tear 15 = .ok (.goto 4, 3) := by decide +kernel
theorem dX5_tear_18 : decode cX5_tear 18 = .ok (.iconst 0, 1) := by decide +kernel
theorem dX5_tear_19 : decode cX5_tear 19 = .ok (.ireturn, 1) := by decide +kernel
set_option maxRecDepth 20000 in
theorem ggX5_ofAll_X5_is : GoodIn wsX5_ofAll wsX5_is := goodIn_r _ [6, 1, 7, 8, 9, 10, 11, 12, 13, 14, 15, 16, 17, 18, 19, 20, 21] rfl (by decide +kernel)
set_option maxRecDepth 20000 in
theorem gX5_ofAll_X5_is : GoodIn wsX5_ofAll (wsV RX5 44 RX5 yX5_is wsX5_is) := goodIn_app (goodIn_of _ (by decide +kernel)) ggX5_ofAll_X5_is
theorem dX5_ofAll_0 : decode cX5_ofAll 0 = .ok (.iconst 0, 1) := by decide +kernel
theorem dX5_ofAll_1 : decode cX5_ofAll 1 = .ok (.istore_n 2, 1) := by decide +kernel
theorem dX5_ofAll_2 : decode cX5_ofAll 2 = .ok (.iconst 0, 1) := by decide +kernel
theorem dX5_ofAll_3 : decode cX5_ofAll 3 = .ok (.istore_n 3, 1) := by decide +kernel
theorem dX5_ofAll_4 : decode cX5_ofAll 4 = .ok (.iload_n 3, 1) := by decide +kernel
theorem dX5_ofAll_5 : decode cX5_ofAll 5 = .ok (.aload_n 0, 1) := by decide +kernel
theorem dX5_ofAll_6 : decode cX5_ofAll 6 = .ok (.getfield 7, 3) := by decide +kernel
theorem dX5_ofAll_9 : decode cX5_ofAll 9 = .ok (.iconst 0, 1) := by decide +kernel
theorem dX5_ofAll_10 : decode cX5_ofAll 10 = .ok (.iaload, 1) := by decide +kernel
theorem dX5_ofAll_11 : decode cX5_ofAll 11 = .ok (.if_icmp .ge 18, 3) := by decide +kernel
theorem dX5_ofAll_14 : decode cX5_ofAll 14 = .ok (.iload_n 2, 1) := by decide +kernel
theorem dX5_ofAll_15 : decode cX5_ofAll 15 = .ok (.aload_n 0, 1) := by decide +kernel
theorem dX5_ofAll_16 : decode cX5_ofAll 16 = .ok (.iload_n 3, 1) := by decide +kernel
theorem dX5_ofAll_17 : decode cX5_ofAll 17 = .ok (.iload_n 1, 1) := by decide +kernel
theorem dX5_ofAll_18 : decode cX5_ofAll 18 = .ok (.invokevirtual 44, 3) := by decide +kernel
theorem dX5_ofAll_21 : decode cX5_ofAll 21 = .ok (.iadd, 1) := by decide +kernel
theorem dX5_ofAll_22 : decode cX5_ofAll 22 = .ok (.istore_n 2, 1) := by decide +kernel
theorem dX5_ofAll_23 : decode cX5_ofAll 23 = .ok (.iinc 3 1, 3) := by decide +kernel
theorem dX5_ofAll_26 : decode cX5_ofAll 26 = .ok (.goto (-22), 3) := by decide +kernel
theorem dX5_ofAll_29 : decode cX5_ofAll 29 = .ok (.iload_n 2, 1) := by decide +kernel
theorem dX5_ofAll_30 : decode cX5_ofAll 30 = .ok (.ireturn, 1) := by decide +kernel
set_option maxRecDepth 20000 in
theorem ggX5_count_X5_ofAll : GoodIn wsX5_count wsX5_ofAll := goodIn_r _ [8, 1, 9, 10, 11, 7, 12, 18, 19, 20, 21, 22, 23, 24, 25, 26, 27, 28, 29, 30, 31, 32] rfl (by decide +kernel)
set_option maxRecDepth 20000 in
theorem gX5_count_X5_ofAll : GoodIn wsX5_count (wsV RX5 241 RX5 yX5_ofAll wsX5_ofAll) := goodIn_app (goodIn_of _ (by decide +kernel)) ggX5_count_X5_ofAll
set_option maxRecDepth 20000 in
theorem ggX5_count_X5_finds : GoodIn wsX5_count wsX5_finds := goodIn_r _ [16, 17, 3, 18, 19, 20, 21, 22, 23, 24, 25, 26, 27, 28, 29, 30, 31, 32] rfl (by decide +kernel)
set_option maxRecDepth 20000 in
theorem gX5_count_X5_finds : GoodIn wsX5_count (wsV RX5 40 RX5 yX5_finds wsX5_finds) := goodIn_app (goodIn_of _ (by decide +kernel)) ggX5_count_X5_finds
theorem dX5_count_0 : decode cX5_count 0 = .ok (.iload_n 1, 1) := by decide +kernel
theorem dX5_count_1 : decode cX5_count 1 = .ok (.tableswitch 66 0 4 #[35, 42, 47, 53, 59], 35) := by decide +kernel
theorem dX5_count_36 : decode cX5_count 36 = .ok (.aload_n 0, 1) := by decide +kernel
theorem dX5_count_37 : decode cX5_count 37 = .ok (.getfield 7, 3) := by decide +kernel
theorem dX5_count_40 : decode cX5_count 40 = .ok (.iconst 0, 1) := by decide +kernel
theorem dX5_count_41 : decode cX5_count 41 = .ok (.iaload, 1) := by decide +kernel
theorem dX5_count_42 : decode cX5_count 42 = .ok (.ireturn, 1) := by decide +kernel
theorem dX5_count_43 : decode cX5_count 43 = .ok (.aload_n 0, 1) := by decide +kernel
theorem dX5_count_44 : decode cX5_count 44 = .ok (.getfield 168, 3) := by decide +kernel
theorem dX5_count_47 : decode cX5_count 47 = .ok (.ireturn, 1) := by decide +kernel
theorem dX5_count_48 : decode cX5_count 48 = .ok (.aload_n 0, 1) := by decide +kernel
theorem dX5_count_49 : decode cX5_count 49 = .ok (.iconst 5, 1) := by decide +kernel
theorem dX5_count_50 : decode cX5_count 50 = .ok (.invokevirtual 241, 3) := by decide +kernel
theorem dX5_count_53 : decode cX5_count 53 = .ok (.ireturn, 1) := by decide +kernel
theorem dX5_count_54 : decode cX5_count 54 = .ok (.aload_n 0, 1) := by decide +kernel
theorem dX5_count_55 : decode cX5_count 55 = .ok (.iconst 2, 1) := by decide +kernel
theorem dX5_count_56 : decode cX5_count 56 = .ok (.invokevirtual 241, 3) := by decide +kernel
theorem dX5_count_59 : decode cX5_count 59 = .ok (.ireturn, 1) := by decide +kernel
theorem dX5_count_60 : decode cX5_count 60 = .ok (.aload_n 0, 1) := by decide +kernel
theorem dX5_count_61 : decode cX5_count 61 = .ok (.bipush 6, 2) := by decide +kernel
theorem dX5_count_63 : decode cX5_count 63 = .ok (.invokevirtual 241, 3) := by decide +kernel
theorem dX5_count_66 : decode cX5_count 66 = .ok (.ireturn, 1) := by decide +kernel
theorem dX5_count_67 : decode cX5_count 67 = .ok (.aload_n 0, 1) := by decide +kernel
theorem dX5_count_68 : decode cX5_count 68 = .ok (.ldc 38, 2) := by decide +kernel
theorem dX5_count_70 : decode cX5_count 70 = .ok (.invokevirtual 40, 3) := by decide +kernel
theorem dX5_count_73 : decode cX5_count 73 = .ok (.ireturn, 1) := by decide +kernel
set_option maxRecDepth 20000 in
theorem ggX5_status_X5_isIn : GoodIn wsX5_status wsX5_isIn := goodIn_r _ [8] rfl (by decide +kernel)
set_option maxRecDepth 20000 in
theorem gX5_status_X5_isIn : GoodIn wsX5_status (va_wsS RX5 50 yX5_isIn wsX5_isIn) := goodIn_app (goodIn_of _ (by decide +kernel)) ggX5_status_X5_isIn
set_option maxRecDepth 20000 in
theorem ggX5_status_X5_finds : GoodIn wsX5_status wsX5_finds := goodIn_r _ [12, 3, 4, 13, 14, 15, 16, 17, 18, 19, 20, 21, 22, 23, 24, 25, 26, 27] rfl (by decide +kernel)
set_option maxRecDepth 20000 in
theorem gX5_status_X5_finds : GoodIn wsX5_status (wsV RX5 40 RX5 yX5_finds wsX5_finds) := goodIn_app (goodIn_of _ (by decide +kernel)) ggX5_status_X5_finds
theorem dX5_status_0 : decode cX5_status 0 = .ok (.iload_n 1, 1) := by decide +kernel
theorem dX5_status_1 : decode cX5_status 1 = .ok (.i2l, 1) := by decide +kernel
theorem dX5_status_2 : decode cX5_status 2 = .ok (.ldc2_w 244, 3) := by decide +kernel
theorem dX5_status_5 : decode cX5_status 5 = .ok (.ldc2_w 246, 3) := by decide +kernel
theorem dX5_status_8 : decode cX5_status 8 = .ok (.invokestatic 50, 3) := by decide +kernel
theorem dX5_status_11 : decode cX5_status 11 = .ok (.ifCond .eq 14, 3) := by decide +kernel
theorem dX5_status_14 : decode cX5_status 14 = .ok (.aload_n 0, 1) := by decide +kernel
theorem dX5_status_15 : decode cX5_status 15 = .ok (.getfield 19, 3) := by decide +kernel
theorem dX5_status_18 : decode cX5_status 18 = .ok (.iload_n 1, 1) := by decide +kernel
theorem dX5_status_19 : decode cX5_status 19 = .ok (.iconst 1, 1) := by decide +kernel
theorem dX5_status_20 : decode cX5_status 20 = .ok (.iadd, 1) := by decide +kernel
theorem dX5_status_21 : decode cX5_status 21 = .ok (.iaload, 1) := by decide +kernel
theorem dX5_status_22 : decode cX5_status 22 = .ok (.goto 9, 3) := by decide +kernel
theorem dX5_status_25 : decode cX5_status 25 = .ok (.aload_n 0, 1) := by decide +kernel
theorem dX5_status_26 : decode cX5_status 26 = .ok (.ldc 38, 2) := by decide +kernel
theorem dX5_status_28 : decode cX5_status 28 = .ok (.invokevirtual 40, 3) := by decide +kernel
theorem dX5_status_31 : decode cX5_status 31 = .ok (.ireturn, 1) := by decide +kernel
theorem dJ9_max_7cf53_0 : decode cJ9_max_7cf53 0 = .ok (.iload_n 0, 1) := by decide +kernel
theorem dJ9_max_7cf53_1 : decode cJ9_max_7cf53 1 = .ok (.iload_n 1, 1) := by decide +kernel
theorem dJ9_max_7cf53_2 : decode cJ9_max_7cf53 2 = .ok (.if_icmp .lt 7, 3) := by decide +kernel
theorem dJ9_max_7cf53_5 : decode cJ9_max_7cf53 5 = .ok (.iload_n 0, 1) := by decide +kernel
theorem dJ9_max_7cf53_6 : decode cJ9_max_7cf53 6 = .ok (.goto 4, 3) := by decide +kernel
theorem dJ9_max_7cf53_9 : decode cJ9_max_7cf53 9 = .ok (.iload_n 1, 1) := by decide +kernel
theorem dJ9_max_7cf53_10 : decode cJ9_max_7cf53 10 = .ok (.ireturn, 1) := by decide +kernel
theorem dJ9_min_7cf53_0 : decode cJ9_min_7cf53 0 = .ok (.iload_n 0, 1) := by decide +kernel
theorem dJ9_min_7cf53_1 : decode cJ9_min_7cf53 1 = .ok (.iload_n 1, 1) := by decide +kernel
theorem dJ9_min_7cf53_2 : decode cJ9_min_7cf53 2 = .ok (.if_icmp .gt 7, 3) := by decide +kernel
theorem dJ9_min_7cf53_5 : decode cJ9_min_7cf53 5 = .ok (.iload_n 0, 1) := by decide +kernel
theorem dJ9_min_7cf53_6 : decode cJ9_min_7cf53 6 = .ok (.goto 4, 3) := by decide +kernel
theorem dJ9_min_7cf53_9 : decode cJ9_min_7cf53 9 = .ok (.iload_n 1, 1) := by decide +kernel
theorem dJ9_min_7cf53_10 : decode cJ9_min_7cf53 10 = .ok (.ireturn, 1) := by decide +kernel
set_option maxRecDepth 20000 in
theorem ggJ0_length_8abf5_J0_coder_7d493 : GoodIn wsJ0_length_8abf5 wsJ0_coder_7d493 := goodIn_r _ [6, 7, 8] rfl (by decide +kernel)
set_option maxRecDepth 20000 in
theorem gJ0_length_8abf5_J0_coder_7d493 : GoodIn wsJ0_length_8abf5 (wsV RJ0 335 RJ0 yJ0_coder_7d493 wsJ0_coder_7d493) := goodIn_app (goodIn_of _ (by decide +kernel)) ggJ0_length_8abf5_J0_coder_7d493
theorem dJ0_length_8abf5_0 : decode cJ0_length_8abf5 0 = .ok (.aload_n 0, 1) := by decide +kernel
theorem dJ0_length_8abf5_1 : decode cJ0_length_8abf5 1 = .ok (.getfield 9, 3) := by decide +kernel
theorem dJ0_length_8abf5_4 : decode cJ0_length_8abf5 4 = .ok (.arraylength, 1) := by decide +kernel
theorem dJ0_length_8abf5_5 : decode cJ0_length_8abf5 5 = .ok (.aload_n 0, 1) := by decide +kernel
theorem dJ0_length_8abf5_6 : decode cJ0_length_8abf5 6 = .ok (.invokevirtual 335, 3) := by decide +kernel
theorem dJ0_length_8abf5_9 : decode cJ0_length_8abf5 9 = .ok (.ishr, 1) := by decide +kernel
theorem dJ0_length_8abf5_10 : decode cJ0_length_8abf5 10 = .ok (.ireturn, 1) := by decide +kernel
set_option maxRecDepth 20000 in
theorem ggJ0_charAt_5068e_J0_isLatin1_aae02 : GoodIn wsJ0_charAt_5068e wsJ0_isLatin1_aae02 := goodIn_r _ [6, 7, 8] rfl (by decide +kernel)
set_option maxRecDepth 20000 in
theorem gJ0_charAt_5068e_J0_isLatin1_aae02 : GoodIn wsJ0_charAt_5068e (wsV RJ0 492 RJ0 yJ0_isLatin1_aae02 wsJ0_isLatin1_aae02) := goodIn_app (goodIn_of _ (by decide +kernel)) ggJ0_charAt_5068e_J0_isLatin1_aae02
set_option maxRecDepth 20000 in
theorem ggJ0_charAt_5068e_J1_charAt_3b067 : GoodIn wsJ0_charAt_5068e wsJ1_charAt_3b067 := goodIn_r _ [12, 13, 14, 5, 15, 16, 17, 18, 19, 20] rfl (by decide +kernel)
set_option maxRecDepth 20000 in
theorem gJ0_charAt_5068e_J1_charAt_3b067 : GoodIn wsJ0_charAt_5068e (va_wsS RJ0 495 yJ1_charAt_3b067 wsJ1_charAt_3b067) := goodIn_app (goodIn_of _ (by decide +kernel)) ggJ0_charAt_5068e_J1_charAt_3b067
set_option maxRecDepth 20000 in
theorem ggJ0_charAt_5068e_J2_charAt_3b067 : GoodIn wsJ0_charAt_5068e wsJ2_charAt_3b067 := goodIn_r _ [24, 25, 26, 23, 27, 28, 29, 30, 31, 14, 5, 15, 16, 17, 18, 19, 20, 32, 33, 34, 35, 36, 37] rfl (by decide +kernel)
set_option maxRecDepth 20000 in
theorem gJ0_charAt_5068e_J2_charAt_3b067 : GoodIn wsJ0_charAt_5068e (va_wsS RJ0 498 yJ2_charAt_3b067 wsJ2_charAt_3b067) := goodIn_app (goodIn_of _ (by decide +kernel)) ggJ0_charAt_5068e_J2_charAt_3b067
theorem dJ0_charAt_5068e_0 : decode cJ0_charAt_5068e 0 = .ok (.aload_n 0, 1) := by decide +kernel
theorem dJ0_charAt_5068e_1 : decode cJ0_charAt_5068e 1 = .ok (.invokevirtual 492, 3) := by decide +kernel
theorem dJ0_charAt_5068e_4 : decode cJ0_charAt_5068e 4 = .ok (.ifCond .eq 12, 3) := by decide +kernel
theorem dJ0_charAt_5068e_7 : decode cJ0_charAt_5068e 7 = .ok (.aload_n 0, 1) := by decide +kernel
theorem dJ0_charAt_5068e_8 : decode cJ0_charAt_5068e 8 = .ok (.getfield 9, 3) := by decide +kernel
theorem dJ0_charAt_5068e_11 : decode cJ0_charAt_5068e 11 = .ok (.iload_n 1, 1) := by decide +kernel
theorem dJ0_charAt_5068e_12 : decode cJ0_charAt_5068e 12 = .ok (.invokestatic 495, 3) := by decide +kernel
theorem dJ0_charAt_5068e_15 : decode cJ0_charAt_5068e 15 = .ok (.ireturn, 1) := by decide +kernel
theorem dJ0_charAt_5068e_16 : decode cJ0_charAt_5068e 16 = .ok (.aload_n 0, 1) := by decide +kernel
theorem dJ0_charAt_5068e_17 : decode cJ0_charAt_5068e 17 = .ok (.getfield 9, 3) := by decide +kernel
theorem dJ0_charAt_5068e_20 : decode cJ0_charAt_5068e 20 = .ok (.iload_n 1, 1) := by decide +kernel
theorem dJ0_charAt_5068e_21 : decode cJ0_charAt_5068e 21 = .ok (.invokestatic 498, 3) := by decide +kernel
theorem dJ0_charAt_5068e_24 : decode cJ0_charAt_5068e 24 = .ok (.ireturn, 1) := by decide +kernel
theorem dJ0_coder_7d493_0 : decode cJ0_coder_7d493 0 = .ok (.getstatic 38, 3) := by decide +kernel
theorem dJ0_coder_7d493_3 : decode cJ0_coder_7d493 3 = .ok (.ifCond .eq 10, 3) := by decide +kernel
theorem dJ0_coder_7d493_6 : decode cJ0_coder_7d493 6 = .ok (.aload_n 0, 1) := by decide +kernel
theorem dJ0_coder_7d493_7 : decode cJ0_coder_7d493 7 = .ok (.getfield 15, 3) := by decide +kernel
theorem dJ0_coder_7d493_10 : decode cJ0_coder_7d493 10 = .ok (.goto 4, 3) := by decide +kernel
theorem dJ0_coder_7d493_13 : decode cJ0_coder_7d493 13 = .ok (.iconst 1, 1) := by decide +kernel
theorem dJ0_coder_7d493_14 : decode cJ0_coder_7d493 14 = .ok (.ireturn, 1) := by decide +kernel
theorem dJ0_isLatin1_aae02_0 : decode cJ0_isLatin1_aae02 0 = .ok (.getstatic 38, 3) := by decide +kernel
theorem dJ0_isLatin1_aae02_3 : decode cJ0_isLatin1_aae02 3 = .ok (.ifCond .eq 14, 3) := by decide +kernel
theorem dJ0_isLatin1_aae02_6 : decode cJ0_isLatin1_aae02 6 = .ok (.aload_n 0, 1) := by decide +kernel
theorem dJ0_isLatin1_aae02_7 : decode cJ0_isLatin1_aae02 7 = .ok (.getfield 15, 3) := by decide +kernel
theorem dJ0_isLatin1_aae02_10 : decode cJ0_isLatin1_aae02 10 = .ok (.ifCond .ne 7, 3) := by decide +kernel
theorem dJ0_isLatin1_aae02_13 : decode cJ0_isLatin1_aae02 13 = .ok (.iconst 1, 1) := by decide +kernel
theorem dJ0_isLatin1_aae02_14 : decode cJ0_isLatin1_aae02 14 = .ok (.goto 4, 3) := by decide +kernel
theorem dJ0_isLatin1_aae02_17 : decode cJ0_isLatin1_aae02 17 = .ok (.iconst 0, 1) := by decide +kernel
theorem dJ0_isLatin1_aae02_18 : decode cJ0_isLatin1_aae02 18 = .ok (.ireturn, 1) := by decide +kernel
set_option maxRecDepth 20000 in
theorem ggJ0_checkIndex_df160_J3_checkIndex_8e157 : GoodIn wsJ0_checkIndex_df160 wsJ3_checkIndex_8e157 := goodIn_r _ [5] rfl (by decide +kernel)
set_option maxRecDepth 20000 in
theorem gJ0_checkIndex_df160_J3_checkIndex_8e157 : GoodIn wsJ0_checkIndex_df160 (va_wsS RJ0 1059 yJ3_checkIndex_8e157 wsJ3_checkIndex_8e157) := goodIn_app (goodIn_of _ (by decide +kernel)) ggJ0_checkIndex_df160_J3_checkIndex_8e157
theorem dJ0_checkIndex_df160_0 : decode cJ0_checkIndex_df160 0 = .ok (.iload_n 0, 1) := by decide +kernel
theorem dJ0_checkIndex_df160_1 : decode cJ0_checkIndex_df160 1 = .ok (.iload_n 1, 1) := by decide +kernel
theorem dJ0_checkIndex_df160_2 : decode cJ0_checkIndex_df160 2 = .ok (.getstatic 1053, 3) := by decide +kernel
theorem dJ0_checkIndex_df160_5 : decode cJ0_checkIndex_df160 5 = .ok (.invokestatic 1059, 3) := by decide +kernel
theorem dJ0_checkIndex_df160_8 : decode cJ0_checkIndex_df160 8 = .ok (.pop, 1) := by decide +kernel
theorem dJ0_checkIndex_df160_9 : decode cJ0_checkIndex_df160 9 = .ok (.return_, 1) := by decide +kernel
set_option maxRecDepth 20000 in
theorem ggJ1_charAt_3b067_J0_checkIndex_df160 : GoodIn wsJ1_charAt_3b067 wsJ0_checkIndex_df160 := goodIn_r _ [4, 5, 6, 7, 8, 9] rfl (by decide +kernel)
set_option maxRecDepth 20000 in
theorem gJ1_charAt_3b067_J0_checkIndex_df160 : GoodIn wsJ1_charAt_3b067 (va_wsS RJ1 9 yJ0_checkIndex_df160 wsJ0_checkIndex_df160) := goodIn_app (goodIn_of _ (by decide +kernel)) ggJ1_charAt_3b067_J0_checkIndex_df160
theorem dJ1_charAt_3b067_0 : decode cJ1_charAt_3b067 0 = .ok (.iload_n 1, 1) := by decide +kernel
theorem dJ1_charAt_3b067_1 : decode cJ1_charAt_3b067 1 = .ok (.aload_n 0, 1) := by decide +kernel
theorem dJ1_charAt_3b067_2 : decode cJ1_charAt_3b067 2 = .ok (.arraylength, 1) := by decide +kernel
theorem dJ1_charAt_3b067_3 : decode cJ1_charAt_3b067 3 = .ok (.invokestatic 9, 3) := by decide +kernel
theorem dJ1_charAt_3b067_6 : decode cJ1_charAt_3b067 6 = .ok (.aload_n 0, 1) := by decide +kernel
theorem dJ1_charAt_3b067_7 : decode cJ1_charAt_3b067 7 = .ok (.iload_n 1, 1) := by decide +kernel
theorem dJ1_charAt_3b067_8 : decode cJ1_charAt_3b067 8 = .ok (.baload, 1) := by decide +kernel
theorem dJ1_charAt_3b067_9 : decode cJ1_charAt_3b067 9 = .ok (.sipush 255, 3) := by decide +kernel
theorem dJ1_charAt_3b067_12 : decode cJ1_charAt_3b067 12 = .ok (.iand, 1) := by decide +kernel
theorem dJ1_charAt_3b067_13 : decode cJ1_charAt_3b067 13 = .ok (.i2c, 1) := by decide +kernel
theorem dJ1_charAt_3b067_14 : decode cJ1_charAt_3b067 14 = .ok (.ireturn, 1) := by decide +kernel
set_option maxRecDepth 20000 in
theorem ggJ2_getChar_3b067_J2_length_9d52b : GoodIn wsJ2_getChar_3b067 wsJ2_length_9d52b := goodIn_r _ [7] rfl (by decide +kernel)
set_option maxRecDepth 20000 in
theorem gJ2_getChar_3b067_J2_length_9d52b : GoodIn wsJ2_getChar_3b067 (va_wsS RJ2 48 yJ2_length_9d52b wsJ2_length_9d52b) := goodIn_app (goodIn_of _ (by decide +kernel)) ggJ2_getChar_3b067_J2_length_9d52b
theorem dJ2_getChar_3b067_0 : decode cJ2_getChar_3b067 0 = .ok (.getstatic 44, 3) := by decide +kernel
theorem dJ2_getChar_3b067_3 : decode cJ2_getChar_3b067 3 = .ok (.ifCond .ne 25, 3) := by decide +kernel
theorem dJ2_getChar_3b067_6 : decode cJ2_getChar_3b067 6 = .ok (.iload_n 1, 1) := by decide +kernel
theorem dJ2_getChar_3b067_7 : decode cJ2_getChar_3b067 7 = .ok (.ifCond .lt 11, 3) := by decide +kernel
theorem dJ2_getChar_3b067_10 : decode cJ2_getChar_3b067 10 = .ok (.iload_n 1, 1) := by decide +kernel
theorem dJ2_getChar_3b067_11 : decode cJ2_getChar_3b067 11 = .ok (.aload_n 0, 1) := by decide +kernel
theorem dJ2_getChar_3b067_12 : decode cJ2_getChar_3b067 12 = .ok (.invokestatic 48, 3) := by decide +kernel
theorem dJ2_getChar_3b067_15 : decode cJ2_getChar_3b067 15 = .ok (.if_icmp .lt 13, 3) := by decide +kernel
theorem dJ2_getChar_3b067_18 : decode cJ2_getChar_3b067 18 = .ok (.new 52, 3) := by decide +kernel
theorem dJ2_getChar_3b067_21 : decode cJ2_getChar_3b067 21 = .ok (.dup, 1) := by decide +kernel
theorem dJ2_getChar_3b067_22 : decode cJ2_getChar_3b067 22 = .ok (.ldc 54, 2) := by decide +kernel
theorem dJ2_getChar_3b067_24 : decode cJ2_getChar_3b067 24 = .ok (.invokespecial 56, 3) := by decide +kernel
theorem dJ2_getChar_3b067_27 : decode cJ2_getChar_3b067 27 = .ok (.athrow, 1) := by decide +kernel
theorem dJ2_getChar_3b067_28 : decode cJ2_getChar_3b067 28 = .ok (.iload_n 1, 1) := by decide +kernel
theorem dJ2_getChar_3b067_29 : decode cJ2_getChar_3b067 29 = .ok (.iconst 1, 1) := by decide +kernel
theorem dJ2_getChar_3b067_30 : decode cJ2_getChar_3b067 30 = .ok (.ishl, 1) := by decide +kernel
theorem dJ2_getChar_3b067_31 : decode cJ2_getChar_3b067 31 = .ok (.istore_n 1, 1) := by decide +kernel
theorem dJ2_getChar_3b067_32 : decode cJ2_getChar_3b067 32 = .ok (.aload_n 0, 1) := by decide +kernel
theorem dJ2_getChar_3b067_33 : decode cJ2_getChar_3b067 33 = .ok (.iload_n 1, 1) := by decide +kernel
theorem dJ2_getChar_3b067_34 : decode cJ2_getChar_3b067 34 = .ok (.iinc 1 1, 3) := by decide +kernel
theorem dJ2_getChar_3b067_37 : decode cJ2_getChar_3b067 37 = .ok (.baload, 1) := by decide +kernel
theorem dJ2_getChar_3b067_38 : decode cJ2_getChar_3b067 38 = .ok (.sipush 255, 3) := by decide +kernel
theorem dJ2_getChar_3b067_41 : decode cJ2_getChar_3b067 41 = .ok (.iand, 1) := by decide +kernel
theorem dJ2_getChar_3b067_42 : decode cJ2_getChar_3b067 42 = .ok (.getstatic 59, 3) := by decide +kernel
theorem dJ2_getChar_3b067_45 : decode cJ2_getChar_3b067 45 = .ok (.ishl, 1) := by decide +kernel
theorem dJ2_getChar_3b067_46 : decode cJ2_getChar_3b067 46 = .ok (.aload_n 0, 1) := by decide +kernel
theorem dJ2_getChar_3b067_47 : decode cJ2_getChar_3b067 47 = .ok (.iload_n 1, 1) := by decide +kernel
theorem dJ2_getChar_3b067_48 : decode cJ2_getChar_3b067 48 = .ok (.baload, 1) := by decide +kernel
theorem dJ2_getChar_3b067_49 : decode cJ2_getChar_3b067 49 = .ok (.sipush 255, 3) := by decide +kernel
theorem dJ2_getChar_3b067_52 : decode cJ2_getChar_3b067 52 = .ok (.iand, 1) := by decide +kernel
theorem dJ2_getChar_3b067_53 : decode cJ2_getChar_3b067 53 = .ok (.getstatic 63, 3) := by decide +kernel
theorem dJ2_getChar_3b067_56 : decode cJ2_getChar_3b067 56 = .ok (.ishl, 1) := by decide +kernel
theorem dJ2_getChar_3b067_57 : decode cJ2_getChar_3b067 57 = .ok (.ior, 1) := by decide +kernel
theorem dJ2_getChar_3b067_58 : decode cJ2_getChar_3b067 58 = .ok (.i2c, 1) := by decide +kernel
theorem dJ2_getChar_3b067_59 : decode cJ2_getChar_3b067 59 = .ok (.ireturn, 1) := by decide +kernel
theorem dJ2_length_9d52b_0 : decode cJ2_length_9d52b 0 = .ok (.aload_n 0, 1) := by decide +kernel
theorem dJ2_length_9d52b_1 : decode cJ2_length_9d52b 1 = .ok (.arraylength, 1) := by decide +kernel
theorem dJ2_length_9d52b_2 : decode cJ2_length_9d52b 2 = .ok (.iconst 1, 1) := by decide +kernel
theorem dJ2_length_9d52b_3 : decode cJ2_length_9d52b 3 = .ok (.ishr, 1) := by decide +kernel
theorem dJ2_length_9d52b_4 : decode cJ2_length_9d52b 4 = .ok (.ireturn, 1) := by decide +kernel
set_option maxRecDepth 20000 in
theorem ggJ2_charAt_3b067_J2_checkIndex_2214a : GoodIn wsJ2_charAt_3b067 wsJ2_checkIndex_2214a := goodIn_r _ [4, 5, 6, 3, 7, 8, 9, 10, 11, 12, 13, 14, 15, 16] rfl (by decide +kernel)
set_option maxRecDepth 20000 in
theorem gJ2_charAt_3b067_J2_checkIndex_2214a : GoodIn wsJ2_charAt_3b067 (va_wsS RJ2 67 yJ2_checkIndex_2214a wsJ2_checkIndex_2214a) := goodIn_app (goodIn_of _ (by decide +kernel)) ggJ2_charAt_3b067_J2_checkIndex_2214a
set_option maxRecDepth 20000 in
theorem ggJ2_charAt_3b067_J2_getChar_3b067 : GoodIn wsJ2_charAt_3b067 wsJ2_getChar_3b067 := goodIn_r _ [19, 20, 21, 22, 5, 6, 3, 7] rfl (by decide +kernel)
set_option maxRecDepth 20000 in
theorem gJ2_charAt_3b067_J2_getChar_3b067 : GoodIn wsJ2_charAt_3b067 (va_wsS RJ2 71 yJ2_getChar_3b067 wsJ2_getChar_3b067) := goodIn_app (goodIn_of _ (by decide +kernel)) ggJ2_charAt_3b067_J2_getChar_3b067
theorem dJ2_charAt_3b067_0 : decode cJ2_charAt_3b067 0 = .ok (.iload_n 1, 1) := by decide +kernel
theorem dJ2_charAt_3b067_1 : decode cJ2_charAt_3b067 1 = .ok (.aload_n 0, 1) := by decide +kernel
theorem dJ2_charAt_3b067_2 : decode cJ2_charAt_3b067 2 = .ok (.invokestatic 67, 3) := by decide +kernel
theorem dJ2_charAt_3b067_5 : decode cJ2_charAt_3b067 5 = .ok (.aload_n 0, 1) := by decide +kernel
theorem dJ2_charAt_3b067_6 : decode cJ2_charAt_3b067 6 = .ok (.iload_n 1, 1) := by decide +kernel
theorem dJ2_charAt_3b067_7 : decode cJ2_charAt_3b067 7 = .ok (.invokestatic 71, 3) := by decide +kernel
theorem dJ2_charAt_3b067_10 : decode cJ2_charAt_3b067 10 = .ok (.ireturn, 1) := by decide +kernel
set_option maxRecDepth 20000 in
theorem ggJ2_checkIndex_2214a_J2_length_9d52b : GoodIn wsJ2_checkIndex_2214a wsJ2_length_9d52b := goodIn_r _ [4] rfl (by decide +kernel)
set_option maxRecDepth 20000 in
theorem gJ2_checkIndex_2214a_J2_length_9d52b : GoodIn wsJ2_checkIndex_2214a (va_wsS RJ2 48 yJ2_length_9d52b wsJ2_length_9d52b) := goodIn_app (goodIn_of _ (by decide +kernel)) ggJ2_checkIndex_2214a_J2_length_9d52b
set_option maxRecDepth 20000 in
theorem ggJ2_checkIndex_2214a_J0_checkIndex_df160 : GoodIn wsJ2_checkIndex_2214a wsJ0_checkIndex_df160 := goodIn_r _ [8, 9, 10, 11, 12, 13] rfl (by decide +kernel)
set_option maxRecDepth 20000 in
theorem gJ2_checkIndex_2214a_J0_checkIndex_df160 : GoodIn wsJ2_checkIndex_2214a (va_wsS RJ2 414 yJ0_checkIndex_df160 wsJ0_checkIndex_df160) := goodIn_app (goodIn_of _ (by decide +kernel)) ggJ2_checkIndex_2214a_J0_checkIndex_df160
theorem dJ2_checkIndex_2214a_0 : decode cJ2_checkIndex_2214a 0 = .ok (.iload_n 0, 1) := by decide +kernel
theorem dJ2_checkIndex_2214a_1 : decode cJ2_checkIndex_2214a 1 = .ok (.aload_n 1, 1) := by decide +kernel
theorem dJ2_checkIndex_2214a_2 : decode cJ2_checkIndex_2214a 2 = .ok (.invokestatic 48, 3) := by decide +kernel
theorem dJ2_checkIndex_2214a_5 : decode cJ2_checkIndex_2214a 5 = .ok (.invokestatic 414, 3) := by decide +kernel
theorem dJ2_checkIndex_2214a_8 : decode cJ2_checkIndex_2214a 8 = .ok (.return_, 1) := by decide +kernel
theorem dJ7_fill_d0a16_0 : decode cJ7_fill_d0a16 0 = .ok (.iconst 0, 1) := by decide +kernel
theorem dJ7_fill_d0a16_1 : decode cJ7_fill_d0a16 1 = .ok (.istore_n 3, 1) := by decide +kernel
theorem dJ7_fill_d0a16_2 : decode cJ7_fill_d0a16 2 = .ok (.aload_n 0, 1) := by decide +kernel
theorem dJ7_fill_d0a16_3 : decode cJ7_fill_d0a16 3 = .ok (.arraylength, 1) := by decide +kernel
theorem dJ7_fill_d0a16_4 : decode cJ7_fill_d0a16 4 = .ok (.istore 4, 2) := by decide +kernel
theorem dJ7_fill_d0a16_6 : decode cJ7_fill_d0a16 6 = .ok (.iload_n 3, 1) := by decide +kernel
theorem dJ7_fill_d0a16_7 : decode cJ7_fill_d0a16 7 = .ok (.iload 4, 2) := by decide +kernel
theorem dJ7_fill_d0a16_9 : decode cJ7_fill_d0a16 9 = .ok (.if_icmp .ge 13, 3) := by decide +kernel
theorem dJ7_fill_d0a16_12 : decode cJ7_fill_d0a16 12 = .ok (.aload_n 0, 1) := by decide +kernel
theorem dJ7_fill_d0a16_13 : decode cJ7_fill_d0a16 13 = .ok (.iload_n 3, 1) := by decide +kernel
theorem dJ7_fill_d0a16_14 : decode cJ7_fill_d0a16 14 = .ok (.lload_n 1, 1) := by decide +kernel
theorem dJ7_fill_d0a16_15 : decode cJ7_fill_d0a16 15 = .ok (.lastore, 1) := by decide +kernel
theorem dJ7_fill_d0a16_16 : decode cJ7_fill_d0a16 16 = .ok (.iinc 3 1, 3) := by decide +kernel
theorem dJ7_fill_d0a16_19 : decode cJ7_fill_d0a16 19 = .ok (.goto (-13), 3) := by decide +kernel
theorem dJ7_fill_d0a16_22 : decode cJ7_fill_d0a16 22 = .ok (.return_, 1) := by decide +kernel
theorem dJ3_checkIndex_8e157_0 : decode cJ3_checkIndex_8e157 0 = .ok (.iload_n 0, 1) := by decide +kernel
theorem dJ3_checkIndex_8e157_1 : decode cJ3_checkIndex_8e157 1 = .ok (.ifCond .lt 8, 3) := by decide +kernel
theorem dJ3_checkIndex_8e157_4 : decode cJ3_checkIndex_8e157 4 = .ok (.iload_n 0, 1) := by decide +kernel
theorem dJ3_checkIndex_8e157_5 : decode cJ3_checkIndex_8e157 5 = .ok (.iload_n 1, 1) := by decide +kernel
theorem dJ3_checkIndex_8e157_6 : decode cJ3_checkIndex_8e157 6 = .ok (.if_icmp .lt 10, 3) := by decide +kernel
theorem dJ3_checkIndex_8e157_9 : decode cJ3_checkIndex_8e157 9 = .ok (.aload_n 2, 1) := by decide +kernel
theorem dJ3_checkIndex_8e157_10 : decode cJ3_checkIndex_8e157 10 = .ok (.iload_n 0, 1) := by decide +kernel
theorem dJ3_checkIndex_8e157_11 : decode cJ3_checkIndex_8e157 11 = .ok (.iload_n 1, 1) := by decide +kernel
theorem dJ3_checkIndex_8e157_12 : decode cJ3_checkIndex_8e157 12 = .ok (.invokestatic 95, 3) := by decide +kernel
theorem dJ3_checkIndex_8e157_15 : decode cJ3_checkIndex_8e157 15 = .ok (.athrow, 1) := by decide +kernel
theorem dJ3_checkIndex_8e157_16 : decode cJ3_checkIndex_8e157 16 = .ok (.iload_n 0, 1) := by decide +kernel
theorem dJ3_checkIndex_8e157_17 : decode cJ3_checkIndex_8e157 17 = .ok (.ireturn, 1) := by decide +kernel
