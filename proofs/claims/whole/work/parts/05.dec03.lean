set_option maxRecDepth 20000 in
theorem gX4_sheetRefusal_X4_isSheet : GoodIn wsX4_sheetRefusal (va_wsS RX4 212 yX4_isSheet wsX4_isSheet) := goodIn_app (goodIn_of _ (by decide +kernel)) ggX4_sheetRefusal_X4_isSheet
set_option maxRecDepth 20000 in
theorem ggX4_sheetRefusal_X1_isMissing : GoodIn wsX4_sheetRefusal wsX1_isMissing := goodIn_r _ [12, 13, 21, 22, 23] rfl (by decide +kernel)
set_option maxRecDepth 20000 in
theorem gX4_sheetRefusal_X1_isMissing : GoodIn wsX4_sheetRefusal (wsV RX4 234 RX1 yX1_isMissing wsX1_isMissing) := goodIn_app (goodIn_of _ (by decide +kernel)) ggX4_sheetRefusal_X1_isMissing
theorem dX4_sheetRefusal_0 : decode cX4_sheetRefusal 0 = .ok (.iload_n 1, 1) := by decide +kernel
theorem dX4_sheetRefusal_1 : decode cX4_sheetRefusal 1 = .ok (.invokestatic 212, 3) := by decide +kernel
theorem dX4_sheetRefusal_4 : decode cX4_sheetRefusal 4 = .ok (.ifCond .ne 6, 3) := by decide +kernel
theorem dX4_sheetRefusal_7 : decode cX4_sheetRefusal 7 = .ok (.ldc 50, 2) := by decide +kernel
theorem dX4_sheetRefusal_9 : decode cX4_sheetRefusal 9 = .ok (.ireturn, 1) := by decide +kernel
theorem dX4_sheetRefusal_10 : decode cX4_sheetRefusal 10 = .ok (.aload_n 0, 1) := by decide +kernel
theorem dX4_sheetRefusal_11 : decode cX4_sheetRefusal 11 = .ok (.getfield 31, 3) := by decide +kernel
theorem dX4_sheetRefusal_14 : decode cX4_sheetRefusal 14 = .ok (.iload_n 1, 1) := by decide +kernel
theorem dX4_sheetRefusal_15 : decode cX4_sheetRefusal 15 = .ok (.aaload, 1) := by decide +kernel
theorem dX4_sheetRefusal_16 : decode cX4_sheetRefusal 16 = .ok (.invokevirtual 234, 3) := by decide +kernel
theorem dX4_sheetRefusal_19 : decode cX4_sheetRefusal 19 = .ok (.ifCond .eq 8, 3) := by decide +kernel
theorem dX4_sheetRefusal_22 : decode cX4_sheetRefusal 22 = .ok (.ldc 237, 2) := by decide +kernel
theorem dX4_sheetRefusal_24 : decode cX4_sheetRefusal 24 = .ok (.goto 4, 3) := by decide +kernel
theorem dX4_sheetRefusal_27 : decode cX4_sheetRefusal 27 = .ok (.iconst 0, 1) := by decide +kernel
theorem dX4_sheetRefusal_28 : decode cX4_sheetRefusal 28 = .ok (.ireturn, 1) := by decide +kernel
set_option maxRecDepth 20000 in
theorem ggX4_allFitting_X4_tryOut : GoodIn wsX4_allFitting wsX4_tryOut := goodIn_r _ [9, 10, 11, 12, 13, 14, 15, 16, 17, 18, 19, 20, 21, 22, 23, 24, 25, 26, 27, 28, 29, 30, 101, 102, 103, 104, 105, 106, 107, 83, 84, 85, 86, 87, 88, 89, 90, 91, 92, 93, 94, 95, 96, 97] rfl (by decide +kernel)
set_option maxRecDepth 20000 in
theorem gX4_allFitting_X4_tryOut : GoodIn wsX4_allFitting (wsV RX4 174 RX4 yX4_tryOut wsX4_tryOut) := goodIn_app (goodIn_of _ (by decide +kernel)) ggX4_allFitting_X4_tryOut
set_option maxRecDepth 20000 in
theorem ggX4_allFitting_X3_goOn : GoodIn wsX4_allFitting wsX3_goOn := goodIn_r _ [34, 35, 36, 37, 15, 38, 22, 21, 39, 40, 41, 42, 43, 30, 18, 44, 45, 46, 47, 20, 28, 17, 48, 49, 50, 51, 52, 53, 54, 55, 23, 26, 56, 57, 58, 24, 59, 60, 61, 62, 63, 64, 65, 66, 67, 68, 69, 70, 71, 72, 73, 74, 75, 76, 77, 78, 79, 80, 81, 82, 25, 83, 84, 85, 86, 87, 88, 89, 90, 91, 92, 93, 94, 95, 96, 97] rfl (by decide +kernel)
set_option maxRecDepth 20000 in
theorem gX4_allFitting_X3_goOn : GoodIn wsX4_allFitting (wsV RX4 138 RX3 yX3_goOn wsX3_goOn) := goodIn_app (goodIn_of _ (by decide +kernel)) ggX4_allFitting_X3_goOn
theorem dX4_allFitting_0 : decode cX4_allFitting 0 = .ok (.aload_n 0, 1) := by decide +kernel
theorem dX4_allFitting_1 : decode cX4_allFitting 1 = .ok (.invokevirtual 174, 3) := by decide +kernel
theorem dX4_allFitting_4 : decode cX4_allFitting 4 = .ok (.astore_n 2, 1) := by decide +kernel
theorem dX4_allFitting_5 : decode cX4_allFitting 5 = .ok (.iconst 1, 1) := by decide +kernel
theorem dX4_allFitting_6 : decode cX4_allFitting 6 = .ok (.aload_n 2, 1) := by decide +kernel
theorem dX4_allFitting_7 : decode cX4_allFitting 7 = .ok (.getfield 64, 3) := by decide +kernel
theorem dX4_allFitting_10 : decode cX4_allFitting 10 = .ok (.ishl, 1) := by decide +kernel
theorem dX4_allFitting_11 : decode cX4_allFitting 11 = .ok (.iconst 1, 1) := by decide +kernel
theorem dX4_allFitting_12 : decode cX4_allFitting 12 = .ok (.isub, 1) := by decide +kernel
theorem dX4_allFitting_13 : decode cX4_allFitting 13 = .ok (.istore_n 3, 1) := by decide +kernel
theorem dX4_allFitting_14 : decode cX4_allFitting 14 = .ok (.iconst 0, 1) := by decide +kernel
theorem dX4_allFitting_15 : decode cX4_allFitting 15 = .ok (.istore 4, 2) := by decide +kernel
theorem dX4_allFitting_17 : decode cX4_allFitting 17 = .ok (.iload 4, 2) := by decide +kernel
theorem dX4_allFitting_19 : decode cX4_allFitting 19 = .ok (.aload_n 1, 1) := by decide +kernel
theorem dX4_allFitting_20 : decode cX4_allFitting 20 = .ok (.getfield 250, 3) := by decide +kernel
theorem dX4_allFitting_23 : decode cX4_allFitting 23 = .ok (.if_icmp .ge 64, 3) := by decide +kernel
theorem dX4_allFitting_26 : decode cX4_allFitting 26 = .ok (.iload_n 3, 1) := by decide +kernel
theorem dX4_allFitting_27 : decode cX4_allFitting 27 = .ok (.ifCond .eq 60, 3) := by decide +kernel
theorem dX4_allFitting_30 : decode cX4_allFitting 30 = .ok (.iconst 0, 1) := by decide +kernel
theorem dX4_allFitting_31 : decode cX4_allFitting 31 = .ok (.istore 5, 2) := by decide +kernel
theorem dX4_allFitting_33 : decode cX4_allFitting 33 = .ok (.iload 5, 2) := by decide +kernel
theorem dX4_allFitting_35 : decode cX4_allFitting 35 = .ok (.aload_n 2, 1) := by decide +kernel
theorem dX4_allFitting_36 : decode cX4_allFitting 36 = .ok (.getfield 64, 3) := by decide +kernel
theorem dX4_allFitting_39 : decode cX4_allFitting 39 = .ok (.if_icmp .ge 37, 3) := by decide +kernel
theorem dX4_allFitting_42 : decode cX4_allFitting 42 = .ok (.aload_n 2, 1) := by decide +kernel
theorem dX4_allFitting_43 : decode cX4_allFitting 43 = .ok (.getfield 91, 3) := by decide +kernel
theorem dX4_allFitting_46 : decode cX4_allFitting 46 = .ok (.iload 5, 2) := by decide +kernel
theorem dX4_allFitting_48 : decode cX4_allFitting 48 = .ok (.iaload, 1) := by decide +kernel
theorem dX4_allFitting_49 : decode cX4_allFitting 49 = .ok (.i2l, 1) := by decide +kernel
theorem dX4_allFitting_50 : decode cX4_allFitting 50 = .ok (.aload_n 1, 1) := by decide +kernel
theorem dX4_allFitting_51 : decode cX4_allFitting 51 = .ok (.getfield 226, 3) := by decide +kernel
theorem dX4_allFitting_54 : decode cX4_allFitting 54 = .ok (.iload 4, 2) := by decide +kernel
theorem dX4_allFitting_56 : decode cX4_allFitting 56 = .ok (.laload, 1) := by decide +kernel
theorem dX4_allFitting_57 : decode cX4_allFitting 57 = .ok (.lcmp, 1) := by decide +kernel
theorem dX4_allFitting_58 : decode cX4_allFitting 58 = .ok (.ifCond .eq 12, 3) := by decide +kernel
theorem dX4_allFitting_61 : decode cX4_allFitting 61 = .ok (.iload_n 3, 1) := by decide +kernel
theorem dX4_allFitting_62 : decode cX4_allFitting 62 = .ok (.iconst 1, 1) := by decide +kernel
theorem dX4_allFitting_63 : decode cX4_allFitting 63 = .ok (.iload 5, 2) := by decide +kernel
theorem dX4_allFitting_65 : decode cX4_allFitting 65 = .ok (.ishl, 1) := by decide +kernel
theorem dX4_allFitting_66 : decode cX4_allFitting 66 = .ok (.iconst (-1), 1) := by decide +kernel
theorem dX4_allFitting_67 : decode cX4_allFitting 67 = .ok (.ixor, 1) := by decide +kernel
theorem dX4_allFitting_68 : decode cX4_allFitting 68 = .ok (.iand, 1) := by decide +kernel
theorem dX4_allFitting_69 : decode cX4_allFitting 69 = .ok (.istore_n 3, 1) := by decide +kernel
theorem dX4_allFitting_70 : decode cX4_allFitting 70 = .ok (.iinc 5 1, 3) := by decide +kernel
theorem dX4_allFitting_73 : decode cX4_allFitting 73 = .ok (.goto (-40), 3) := by decide +kernel
theorem dX4_allFitting_76 : decode cX4_allFitting 76 = .ok (.aload_n 2, 1) := by decide +kernel
theorem dX4_allFitting_77 : decode cX4_allFitting 77 = .ok (.iconst 1, 1) := by decide +kernel
theorem dX4_allFitting_78 : decode cX4_allFitting 78 = .ok (.invokevirtual 138, 3) := by decide +kernel
theorem dX4_allFitting_81 : decode cX4_allFitting 81 = .ok (.iinc 4 1, 3) := by decide +kernel
theorem dX4_allFitting_84 : decode cX4_allFitting 84 = .ok (.goto (-67), 3) := by decide +kernel
theorem dX4_allFitting_87 : decode cX4_allFitting 87 = .ok (.iload_n 3, 1) := by decide +kernel
theorem dX4_allFitting_88 : decode cX4_allFitting 88 = .ok (.ireturn, 1) := by decide +kernel
theorem dX4_exchange_0 : decode cX4_exchange 0 = .ok (.iload_n 1, 1) := by decide +kernel
theorem dX4_exchange_1 : decode cX4_exchange 1 = .ok (.ifCond .lt 9, 3) := by decide +kernel
theorem dX4_exchange_4 : decode cX4_exchange 4 = .ok (.iload_n 1, 1) := by decide +kernel
theorem dX4_exchange_5 : decode cX4_exchange 5 = .ok (.aload_n 0, 1) := by decide +kernel
theorem dX4_exchange_6 : decode cX4_exchange 6 = .ok (.arraylength, 1) := by decide +kernel
theorem dX4_exchange_7 : decode cX4_exchange 7 = .ok (.if_icmp .lt 5, 3) := by decide +kernel
theorem dX4_exchange_10 : decode cX4_exchange 10 = .ok (.iload_n 2, 1) := by decide +kernel
theorem dX4_exchange_11 : decode cX4_exchange 11 = .ok (.ireturn, 1) := by decide +kernel
theorem dX4_exchange_12 : decode cX4_exchange 12 = .ok (.aload_n 0, 1) := by decide +kernel
theorem dX4_exchange_13 : decode cX4_exchange 13 = .ok (.iload_n 1, 1) := by decide +kernel
theorem dX4_exchange_14 : decode cX4_exchange 14 = .ok (.iaload, 1) := by decide +kernel
theorem dX4_exchange_15 : decode cX4_exchange 15 = .ok (.istore_n 3, 1) := by decide +kernel
theorem dX4_exchange_16 : decode cX4_exchange 16 = .ok (.aload_n 0, 1) := by decide +kernel
theorem dX4_exchange_17 : decode cX4_exchange 17 = .ok (.iload_n 1, 1) := by decide +kernel
theorem dX4_exchange_18 : decode cX4_exchange 18 = .ok (.iload_n 2, 1) := by decide +kernel
theorem dX4_exchange_19 : decode cX4_exchange 19 = .ok (.iastore, 1) := by decide +kernel
theorem dX4_exchange_20 : decode cX4_exchange 20 = .ok (.iload_n 3, 1) := by decide +kernel
theorem dX4_exchange_21 : decode cX4_exchange 21 = .ok (.ireturn, 1) := by decide +kernel
theorem dX4_isKind_0 : decode cX4_isKind 0 = .ok (.iload_n 0, 1) := by decide +kernel
theorem dX4_isKind_1 : decode cX4_isKind 1 = .ok (.ifCond .lt 13, 3) := by decide +kernel
theorem dX4_isKind_4 : decode cX4_isKind 4 = .ok (.iload_n 0, 1) := by decide +kernel
theorem dX4_isKind_5 : decode cX4_isKind 5 = .ok (.bipush 6, 2) := by decide +kernel
theorem dX4_isKind_7 : decode cX4_isKind 7 = .ok (.if_icmp .ge 7, 3) := by decide +kernel
theorem dX4_isKind_10 : decode cX4_isKind 10 = .ok (.iconst 1, 1) := by decide +kernel
theorem dX4_isKind_11 : decode cX4_isKind 11 = .ok (.goto 4, 3) := by decide +kernel
theorem dX4_isKind_14 : decode cX4_isKind 14 = .ok (.iconst 0, 1) := by decide +kernel
theorem dX4_isKind_15 : decode cX4_isKind 15 = .ok (.ireturn, 1) := by decide +kernel
theorem dX4_isPace_0 : decode cX4_isPace 0 = .ok (.iload_n 0, 1) := by decide +kernel
theorem dX4_isPace_1 : decode cX4_isPace 1 = .ok (.iconst 1, 1) := by decide +kernel
theorem dX4_isPace_2 : decode cX4_isPace 2 = .ok (.if_icmp .lt 13, 3) := by decide +kernel
theorem dX4_isPace_5 : decode cX4_isPace 5 = .ok (.iload_n 0, 1) := by decide +kernel
theorem dX4_isPace_6 : decode cX4_isPace 6 = .ok (.bipush 12, 2) := by decide +kernel
theorem dX4_isPace_8 : decode cX4_isPace 8 = .ok (.if_icmp .gt 7, 3) := by decide +kernel
theorem dX4_isPace_11 : decode cX4_isPace 11 = .ok (.iconst 1, 1) := by decide +kernel
theorem dX4_isPace_12 : decode cX4_isPace 12 = .ok (.goto 4, 3) := by decide +kernel
theorem dX4_isPace_15 : decode cX4_isPace 15 = .ok (.iconst 0, 1) := by decide +kernel
theorem dX4_isPace_16 : decode cX4_isPace 16 = .ok (.ireturn, 1) := by decide +kernel
theorem dX4_isBreath_0 : decode cX4_isBreath 0 = .ok (.iload_n 0, 1) := by decide +kernel
theorem dX4_isBreath_1 : decode cX4_isBreath 1 = .ok (.ifCond .lt 14, 3) := by decide +kernel
theorem dX4_isBreath_4 : decode cX4_isBreath 4 = .ok (.iload_n 0, 1) := by decide +kernel
theorem dX4_isBreath_5 : decode cX4_isBreath 5 = .ok (.sipush 999, 3) := by decide +kernel
theorem dX4_isBreath_8 : decode cX4_isBreath 8 = .ok (.if_icmp .gt 7, 3) := by decide +kernel
theorem dX4_isBreath_11 : decode cX4_isBreath 11 = .ok (.iconst 1, 1) := by decide +kernel
theorem dX4_isBreath_12 : decode cX4_isBreath 12 = .ok (.goto 4, 3) := by decide +kernel
theorem dX4_isBreath_15 : decode cX4_isBreath 15 = .ok (.iconst 0, 1) := by decide +kernel
theorem dX4_isBreath_16 : decode cX4_isBreath 16 = .ok (.ireturn, 1) := by decide +kernel
theorem dX4_isLaw_0 : decode cX4_isLaw 0 = .ok (.iload_n 0, 1) := by decide +kernel
theorem dX4_isLaw_1 : decode cX4_isLaw 1 = .ok (.ifCond .lt 12, 3) := by decide +kernel
theorem dX4_isLaw_4 : decode cX4_isLaw 4 = .ok (.iload_n 0, 1) := by decide +kernel
theorem dX4_isLaw_5 : decode cX4_isLaw 5 = .ok (.iconst 4, 1) := by decide +kernel
theorem dX4_isLaw_6 : decode cX4_isLaw 6 = .ok (.if_icmp .ge 7, 3) := by decide +kernel
theorem dX4_isLaw_9 : decode cX4_isLaw 9 = .ok (.iconst 1, 1) := by decide +kernel
theorem dX4_isLaw_10 : decode cX4_isLaw 10 = .ok (.goto 4, 3) := by decide +kernel
theorem dX4_isLaw_13 : decode cX4_isLaw 13 = .ok (.iconst 0, 1) := by decide +kernel
theorem dX4_isLaw_14 : decode cX4_isLaw 14 = .ok (.ireturn, 1) := by decide +kernel
theorem dX4_isSheet_0 : decode cX4_isSheet 0 = .ok (.iload_n 0, 1) := by decide +kernel
theorem dX4_isSheet_1 : decode cX4_isSheet 1 = .ok (.ifCond .lt 12, 3) := by decide +kernel
theorem dX4_isSheet_4 : decode cX4_isSheet 4 = .ok (.iload_n 0, 1) := by decide +kernel
theorem dX4_isSheet_5 : decode cX4_isSheet 5 = .ok (.iconst 4, 1) := by decide +kernel
theorem dX4_isSheet_6 : decode cX4_isSheet 6 = .ok (.if_icmp .ge 7, 3) := by decide +kernel
theorem dX4_isSheet_9 : decode cX4_isSheet 9 = .ok (.iconst 1, 1) := by decide +kernel
theorem dX4_isSheet_10 : decode cX4_isSheet 10 = .ok (.goto 4, 3) := by decide +kernel
theorem dX4_isSheet_13 : decode cX4_isSheet 13 = .ok (.iconst 0, 1) := by decide +kernel
theorem dX4_isSheet_14 : decode cX4_isSheet 14 = .ok (.ireturn, 1) := by decide +kernel
theorem dX4_isWidth_0 : decode cX4_isWidth 0 = .ok (.iload_n 0, 1) := by decide +kernel
theorem dX4_isWidth_1 : decode cX4_isWidth 1 = .ok (.ifCond .eq 21, 3) := by decide +kernel
theorem dX4_isWidth_4 : decode cX4_isWidth 4 = .ok (.iload_n 0, 1) := by decide +kernel
theorem dX4_isWidth_5 : decode cX4_isWidth 5 = .ok (.bipush 8, 2) := by decide +kernel
theorem dX4_isWidth_7 : decode cX4_isWidth 7 = .ok (.if_icmp .eq 15, 3) := by decide +kernel
theorem dX4_isWidth_10 : decode cX4_isWidth 10 = .ok (.iload_n 0, 1) := by decide +kernel
theorem dX4_isWidth_11 : decode cX4_isWidth 11 = .ok (.bipush 16, 2) := by decide +kernel
theorem dX4_isWidth_13 : decode cX4_isWidth 13 = .ok (.if_icmp .eq 9, 3) := by decide +kernel
theorem dX4_isWidth_16 : decode cX4_isWidth 16 = .ok (.iload_n 0, 1) := by decide +kernel
theorem dX4_isWidth_17 : decode cX4_isWidth 17 = .ok (.bipush 64, 2) := by decide +kernel
theorem dX4_isWidth_19 : decode cX4_isWidth 19 = .ok (.if_icmp .ne 7, 3) := by decide +kernel
theorem dX4_isWidth_22 : decode cX4_isWidth 22 = .ok (.iconst 1, 1) := by decide +kernel
theorem dX4_isWidth_23 : decode cX4_isWidth 23 = .ok (.goto 4, 3) := by decide +kernel
theorem dX4_isWidth_26 : decode cX4_isWidth 26 = .ok (.iconst 0, 1) := by decide +kernel
theorem dX4_isWidth_27 : decode cX4_isWidth 27 = .ok (.ireturn, 1) := by decide +kernel
theorem dX5_init_0 : decode cX5_init 0 = .ok (.aload_n 0, 1) := by decide +kernel
theorem dX5_init_1 : decode cX5_init 1 = .ok (.invokespecial 1, 3) := by decide +kernel
theorem dX5_init_4 : decode cX5_init 4 = .ok (.aload_n 0, 1) := by decide +kernel
theorem dX5_init_5 : decode cX5_init 5 = .ok (.bipush 77, 2) := by decide +kernel
theorem dX5_init_7 : decode cX5_init 7 = .ok (.newarray .int, 2) := by decide +kernel
theorem dX5_init_9 : decode cX5_init 9 = .ok (.putfield 7, 3) := by decide +kernel
theorem dX5_init_12 : decode cX5_init 12 = .ok (.aload_n 0, 1) := by decide +kernel
theorem dX5_init_13 : decode cX5_init 13 = .ok (.bipush 77, 2) := by decide +kernel
theorem dX5_init_15 : decode cX5_init 15 = .ok (.newarray .int, 2) := by decide +kernel
theorem dX5_init_17 : decode cX5_init 17 = .ok (.putfield 13, 3) := by decide +kernel
theorem dX5_init_20 : decode cX5_init 20 = .ok (.aload_n 0, 1) := by decide +kernel
theorem dX5_init_21 : decode cX5_init 21 = .ok (.bipush 77, 2) := by decide +kernel
theorem dX5_init_23 : decode cX5_init 23 = .ok (.newarray .int, 2) := by decide +kernel
theorem dX5_init_25 : decode cX5_init 25 = .ok (.putfield 16, 3) := by decide +kernel
theorem dX5_init_28 : decode cX5_init 28 = .ok (.aload_n 0, 1) := by decide +kernel
theorem dX5_init_29 : decode cX5_init 29 = .ok (.bipush 8, 2) := by decide +kernel
theorem dX5_init_31 : decode cX5_init 31 = .ok (.newarray .int, 2) := by decide +kernel
theorem dX5_init_33 : decode cX5_init 33 = .ok (.putfield 19, 3) := by decide +kernel
theorem dX5_init_36 : decode cX5_init 36 = .ok (.aload_n 0, 1) := by decide +kernel
theorem dX5_init_37 : decode cX5_init 37 = .ok (.bipush 120, 2) := by decide +kernel
theorem dX5_init_39 : decode cX5_init 39 = .ok (.newarray .int, 2) := by decide +kernel
theorem dX5_init_41 : decode cX5_init 41 = .ok (.putfield 22, 3) := by decide +kernel
theorem dX5_init_44 : decode cX5_init 44 = .ok (.aload_n 0, 1) := by decide +kernel
theorem dX5_init_45 : decode cX5_init 45 = .ok (.iconst 4, 1) := by decide +kernel
theorem dX5_init_46 : decode cX5_init 46 = .ok (.newarray .int, 2) := by decide +kernel
theorem dX5_init_48 : decode cX5_init 48 = .ok (.dup, 1) := by decide +kernel
theorem dX5_init_49 : decode cX5_init 49 = .ok (.iconst 0, 1) := by decide +kernel
theorem dX5_init_50 : decode cX5_init 50 = .ok (.iconst (-1), 1) := by decide +kernel
theorem dX5_init_51 : decode cX5_init 51 = .ok (.iastore, 1) := by decide +kernel
theorem dX5_init_52 : decode cX5_init 52 = .ok (.dup, 1) := by decide +kernel
theorem dX5_init_53 : decode cX5_init 53 = .ok (.iconst 1, 1) := by decide +kernel
theorem dX5_init_54 : decode cX5_init 54 = .ok (.iconst (-1), 1) := by decide +kernel
theorem dX5_init_55 : decode cX5_init 55 = .ok (.iastore, 1) := by decide +kernel
theorem dX5_init_56 : decode cX5_init 56 = .ok (.dup, 1) := by decide +kernel
theorem dX5_init_57 : decode cX5_init 57 = .ok (.iconst 2, 1) := by decide +kernel
theorem dX5_init_58 : decode cX5_init 58 = .ok (.iconst (-1), 1) := by decide +kernel
theorem dX5_init_59 : decode cX5_init 59 = .ok (.iastore, 1) := by decide +kernel
theorem dX5_init_60 : decode cX5_init 60 = .ok (.dup, 1) := by decide +kernel
theorem dX5_init_61 : decode cX5_init 61 = .ok (.iconst 3, 1) := by decide +kernel
theorem dX5_init_62 : decode cX5_init 62 = .ok (.iconst (-1), 1) := by decide +kernel
theorem dX5_init_63 : decode cX5_init 63 = .ok (.iastore, 1) := by decide +kernel
theorem dX5_init_64 : decode cX5_init 64 = .ok (.putfield 25, 3) := by decide +kernel
theorem dX5_init_67 : decode cX5_init 67 = .ok (.aload_n 0, 1) := by decide +kernel
theorem dX5_init_68 : decode cX5_init 68 = .ok (.iconst 4, 1) := by decide +kernel
theorem dX5_init_69 : decode cX5_init 69 = .ok (.newarray .int, 2) := by decide +kernel
theorem dX5_init_71 : decode cX5_init 71 = .ok (.putfield 28, 3) := by decide +kernel
theorem dX5_init_74 : decode cX5_init 74 = .ok (.aload_n 0, 1) := by decide +kernel
theorem dX5_init_75 : decode cX5_init 75 = .ok (.sipush 160, 3) := by decide +kernel
theorem dX5_init_78 : decode cX5_init 78 = .ok (.newarray .long, 2) := by decide +kernel
theorem dX5_init_80 : decode cX5_init 80 = .ok (.putfield 31, 3) := by decide +kernel
theorem dX5_init_83 : decode cX5_init 83 = .ok (.aload_n 0, 1) := by decide +kernel
theorem dX5_init_84 : decode cX5_init 84 = .ok (.bipush 9, 2) := by decide +kernel
theorem dX5_init_86 : decode cX5_init 86 = .ok (.newarray .int, 2) := by decide +kernel
theorem dX5_init_88 : decode cX5_init 88 = .ok (.putfield 35, 3) := by decide +kernel
theorem dX5_init_91 : decode cX5_init 91 = .ok (.aload_n 0, 1) := by decide +kernel
theorem dX5_init_92 : decode cX5_init 92 = .ok (.getfield 7, 3) := by decide +kernel
theorem dX5_init_95 : decode cX5_init 95 = .ok (.iconst 1, 1) := by decide +kernel
theorem dX5_init_96 : decode cX5_init 96 = .ok (.sipush 200, 3) := by decide +kernel
theorem dX5_init_99 : decode cX5_init 99 = .ok (.iastore, 1) := by decide +kernel
theorem dX5_init_100 : decode cX5_init 100 = .ok (.aload_n 0, 1) := by decide +kernel
theorem dX5_init_101 : decode cX5_init 101 = .ok (.getfield 7, 3) := by decide +kernel
theorem dX5_init_104 : decode cX5_init 104 = .ok (.iconst 2, 1) := by decide +kernel
theorem dX5_init_105 : decode cX5_init 105 = .ok (.iconst 1, 1) := by decide +kernel
theorem dX5_init_106 : decode cX5_init 106 = .ok (.iastore, 1) := by decide +kernel
theorem dX5_init_107 : decode cX5_init 107 = .ok (.aload_n 0, 1) := by decide +kernel
theorem dX5_init_108 : decode cX5_init 108 = .ok (.getfield 7, 3) := by decide +kernel
theorem dX5_init_111 : decode cX5_init 111 = .ok (.iconst 3, 1) := by decide +kernel
theorem dX5_init_112 : decode cX5_init 112 = .ok (.iconst 1, 1) := by decide +kernel
theorem dX5_init_113 : decode cX5_init 113 = .ok (.iastore, 1) := by decide +kernel
theorem dX5_init_114 : decode cX5_init 114 = .ok (.return_, 1) := by decide +kernel
theorem dX5_isIn_0 : decode cX5_isIn 0 = .ok (.lload_n 0, 1) := by decide +kernel
theorem dX5_isIn_1 : decode cX5_isIn 1 = .ok (.lload_n 2, 1) := by decide +kernel
theorem dX5_isIn_2 : decode cX5_isIn 2 = .ok (.lcmp, 1) := by decide +kernel
theorem dX5_isIn_3 : decode cX5_isIn 3 = .ok (.ifCond .lt 14, 3) := by decide +kernel
theorem dX5_isIn_6 : decode cX5_isIn 6 = .ok (.lload_n 0, 1) := by decide +kernel
theorem dX5_isIn_7 : decode cX5_isIn 7 = .ok (.lload 4, 2) := by decide +kernel
theorem dX5_isIn_9 : decode cX5_isIn 9 = .ok (.lcmp, 1) := by decide +kernel
theorem dX5_isIn_10 : decode cX5_isIn 10 = .ok (.ifCond .gt 7, 3) := by decide +kernel
theorem dX5_isIn_13 : decode cX5_isIn 13 = .ok (.iconst 1, 1) := by decide +kernel
theorem dX5_isIn_14 : decode cX5_isIn 14 = .ok (.goto 4, 3) := by decide +kernel
theorem dX5_isIn_17 : decode cX5_isIn 17 = .ok (.iconst 0, 1) := by decide +kernel
theorem dX5_isIn_18 : decode cX5_isIn 18 = .ok (.ireturn, 1) := by decide +kernel
theorem dX5_finds_0 : decode cX5_finds 0 = .ok (.aload_n 0, 1) := by decide +kernel
theorem dX5_finds_1 : decode cX5_finds 1 = .ok (.getfield 19, 3) := by decide +kernel
theorem dX5_finds_4 : decode cX5_finds 4 = .ok (.iconst 0, 1) := by decide +kernel
theorem dX5_finds_5 : decode cX5_finds 5 = .ok (.dup2, 1) := by decide +kernel
theorem dX5_finds_6 : decode cX5_finds 6 = .ok (.iaload, 1) := by decide +kernel
theorem dX5_finds_7 : decode cX5_finds 7 = .ok (.iconst 1, 1) := by decide +kernel
theorem dX5_finds_8 : decode cX5_finds 8 = .ok (.iadd, 1) := by decide +kernel
theorem dX5_finds_9 : decode cX5_finds 9 = .ok (.iastore, 1) := by decide +kernel
theorem dX5_finds_10 : decode cX5_finds 10 = .ok (.aload_n 0, 1) := by decide +kernel
theorem dX5_finds_11 : decode cX5_finds 11 = .ok (.getfield 19, 3) := by decide +kernel
theorem dX5_finds_14 : decode cX5_finds 14 = .ok (.ldc 38, 2) := by decide +kernel
theorem dX5_finds_16 : decode cX5_finds 16 = .ok (.iload_n 1, 1) := by decide +kernel
theorem dX5_finds_17 : decode cX5_finds 17 = .ok (.isub, 1) := by decide +kernel
theorem dX5_finds_18 : decode cX5_finds 18 = .ok (.iconst 1, 1) := by decide +kernel
theorem dX5_finds_19 : decode cX5_finds 19 = .ok (.iadd, 1) := by decide +kernel
theorem dX5_finds_20 : decode cX5_finds 20 = .ok (.dup2, 1) := by decide +kernel
theorem dX5_finds_21 : decode cX5_finds 21 = .ok (.iaload, 1) := by decide +kernel
theorem dX5_finds_22 : decode cX5_finds 22 = .ok (.iconst 1, 1) := by decide +kernel
theorem dX5_finds_23 : decode cX5_finds 23 = .ok (.iadd, 1) := by decide +kernel
theorem dX5_finds_24 : decode cX5_finds 24 = .ok (.iastore, 1) := by decide +kernel
theorem dX5_finds_25 : decode cX5_finds 25 = .ok (.iload_n 1, 1) := by decide +kernel
theorem dX5_finds_26 : decode cX5_finds 26 = .ok (.ireturn, 1) := by decide +kernel
set_option maxRecDepth 20000 in
theorem ggX5_orNone_X5_finds : GoodIn wsX5_orNone wsX5_finds := goodIn_r _ [6, 7, 8, 9, 10, 11, 12, 13, 14, 15, 16, 17, 18, 19, 20, 21, 22, 23] rfl (by decide +kernel)
set_option maxRecDepth 20000 in
theorem gX5_orNone_X5_finds : GoodIn wsX5_orNone (wsV RX5 40 RX5 yX5_finds wsX5_finds) := goodIn_app (goodIn_of _ (by decide +kernel)) ggX5_orNone_X5_finds
theorem dX5_orNone_0 : decode cX5_orNone 0 = .ok (.iload_n 1, 1) := by decide +kernel
theorem dX5_orNone_1 : decode cX5_orNone 1 = .ok (.ifCond .ge 12, 3) := by decide +kernel
theorem dX5_orNone_4 : decode cX5_orNone 4 = .ok (.aload_n 0, 1) := by decide +kernel
theorem dX5_orNone_5 : decode cX5_orNone 5 = .ok (.ldc 39, 2) := by decide +kernel
theorem dX5_orNone_7 : decode cX5_orNone 7 = .ok (.invokevirtual 40, 3) := by decide +kernel
theorem dX5_orNone_10 : decode cX5_orNone 10 = .ok (.goto 4, 3) := by decide +kernel
theorem dX5_orNone_13 : decode cX5_orNone 13 = .ok (.iload_n 1, 1) := by decide +kernel
theorem dX5_orNone_14 : decode cX5_orNone 14 = .ok (.ireturn, 1) := by decide +kernel
theorem dX5_becomes_0 : decode cX5_becomes 0 = .ok (.aload_n 0, 1) := by decide +kernel
theorem dX5_becomes_1 : decode cX5_becomes 1 = .ok (.getfield 7, 3) := by decide +kernel
theorem dX5_becomes_4 : decode cX5_becomes 4 = .ok (.iload_n 1, 1) := by decide +kernel
theorem dX5_becomes_5 : decode cX5_becomes 5 = .ok (.iaload, 1) := by decide +kernel
theorem dX5_becomes_6 : decode cX5_becomes 6 = .ok (.istore_n 3, 1) := by decide +kernel
theorem dX5_becomes_7 : decode cX5_becomes 7 = .ok (.aload_n 0, 1) := by decide +kernel
theorem dX5_becomes_8 : decode cX5_becomes 8 = .ok (.getfield 7, 3) := by decide +kernel
theorem dX5_becomes_11 : decode cX5_becomes 11 = .ok (.iload_n 1, 1) := by decide +kernel
theorem dX5_becomes_12 : decode cX5_becomes 12 = .ok (.iload_n 2, 1) := by decide +kernel
theorem dX5_becomes_13 : decode cX5_becomes 13 = .ok (.iastore, 1) := by decide +kernel
theorem dX5_becomes_14 : decode cX5_becomes 14 = .ok (.iload_n 3, 1) := by decide +kernel
theorem dX5_becomes_15 : decode cX5_becomes 15 = .ok (.ireturn, 1) := by decide +kernel
theorem dX5_is_0 : decode cX5_is 0 = .ok (.aload_n 0, 1) := by decide +kernel
theorem dX5_is_1 : decode cX5_is 1 = .ok (.getfield 7, 3) := by decide +kernel
theorem dX5_is_4 : decode cX5_is 4 = .ok (.iconst 5, 1) := by decide +kernel
theorem dX5_is_5 : decode cX5_is 5 = .ok (.bipush 8, 2) := by decide +kernel
theorem dX5_is_7 : decode cX5_is 7 = .ok (.iload_n 1, 1) := by decide +kernel
theorem dX5_is_8 : decode cX5_is 8 = .ok (.imul, 1) := by decide +kernel
theorem dX5_is_9 : decode cX5_is 9 = .ok (.iadd, 1) := by decide +kernel
theorem dX5_is_10 : decode cX5_is 10 = .ok (.iload_n 2, 1) := by decide +kernel
theorem dX5_is_11 : decode cX5_is 11 = .ok (.iadd, 1) := by decide +kernel
theorem dX5_is_12 : decode cX5_is 12 = .ok (.iaload, 1) := by decide +kernel
theorem dX5_is_13 : decode cX5_is 13 = .ok (.ireturn, 1) := by decide +kernel
theorem dX5_puts_0 : decode cX5_puts 0 = .ok (.aload_n 0, 1) := by decide +kernel
theorem dX5_puts_1 : decode cX5_puts 1 = .ok (.getfield 7, 3) := by decide +kernel
theorem dX5_puts_4 : decode cX5_puts 4 = .ok (.iconst 5, 1) := by decide +kernel
theorem dX5_puts_5 : decode cX5_puts 5 = .ok (.bipush 8, 2) := by decide +kernel
theorem dX5_puts_7 : decode cX5_puts 7 = .ok (.iload_n 1, 1) := by decide +kernel
theorem dX5_puts_8 : decode cX5_puts 8 = .ok (.imul, 1) := by decide +kernel
theorem dX5_puts_9 : decode cX5_puts 9 = .ok (.iadd, 1) := by decide +kernel
theorem dX5_puts_10 : decode cX5_puts 10 = .ok (.iload_n 2, 1) := by decide +kernel
theorem dX5_puts_11 : decode cX5_puts 11 = .ok (.iadd, 1) := by decide +kernel
theorem dX5_puts_12 : decode cX5_puts 12 = .ok (.iload_n 3, 1) := by decide +kernel
theorem dX5_puts_13 : decode cX5_puts 13 = .ok (.iastore, 1) := by decide +kernel
theorem dX5_puts_14 : decode cX5_puts 14 = .ok (.return_, 1) := by decide +kernel
theorem dX5_isRunner_0 : decode cX5_isRunner 0 = .ok (.iload_n 1, 1) := by decide +kernel
theorem dX5_isRunner_1 : decode cX5_isRunner 1 = .ok (.ifCond .lt 17, 3) := by decide +kernel
theorem dX5_isRunner_4 : decode cX5_isRunner 4 = .ok (.iload_n 1, 1) := by decide +kernel
theorem dX5_isRunner_5 : decode cX5_isRunner 5 = .ok (.aload_n 0, 1) := by decide +kernel
theorem dX5_isRunner_6 : decode cX5_isRunner 6 = .ok (.getfield 7, 3) := by decide +kernel
theorem dX5_isRunner_9 : decode cX5_isRunner 9 = .ok (.iconst 0, 1) := by decide +kernel
theorem dX5_isRunner_10 : decode cX5_isRunner 10 = .ok (.iaload, 1) := by decide +kernel
theorem dX5_isRunner_11 : decode cX5_isRunner 11 = .ok (.if_icmp .ge 7, 3) := by decide +kernel
theorem dX5_isRunner_14 : decode cX5_isRunner 14 = .ok (.iconst 1, 1) := by decide +kernel
theorem dX5_isRunner_15 : decode cX5_isRunner 15 = .ok (.goto 4, 3) := by decide +kernel
theorem dX5_isRunner_18 : decode cX5_isRunner 18 = .ok (.iconst 0, 1) := by decide +kernel
theorem dX5_isRunner_19 : decode cX5_isRunner 19 = .ok (.ireturn, 1) := by decide +kernel
set_option maxRecDepth 20000 in
theorem ggX5_isHome_X5_is : GoodIn wsX5_isHome wsX5_is := goodIn_r _ [5, 6, 7, 8, 9, 10, 11, 12, 13, 14, 15, 16, 17, 18, 19, 20, 21] rfl (by decide +kernel)
set_option maxRecDepth 20000 in
theorem gX5_isHome_X5_is : GoodIn wsX5_isHome (wsV RX5 44 RX5 yX5_is wsX5_is) := goodIn_app (goodIn_of _ (by decide +kernel)) ggX5_isHome_X5_is
theorem dX5_isHome_0 : decode cX5_isHome 0 = .ok (.aload_n 0, 1) := by decide +kernel
theorem dX5_isHome_1 : decode cX5_isHome 1 = .ok (.iload_n 1, 1) := by decide +kernel
theorem dX5_isHome_2 : decode cX5_isHome 2 = .ok (.bipush 7, 2) := by decide +kernel
theorem dX5_isHome_4 : decode cX5_isHome 4 = .ok (.invokevirtual 44, 3) := by decide +kernel
theorem dX5_isHome_7 : decode cX5_isHome 7 = .ok (.ifCond .lt 7, 3) := by decide +kernel
theorem dX5_isHome_10 : decode cX5_isHome 10 = .ok (.iconst 1, 1) := by decide +kernel
theorem dX5_isHome_11 : decode cX5_isHome 11 = .ok (.goto 4, 3) := by decide +kernel
theorem dX5_isHome_14 : decode cX5_isHome 14 = .ok (.iconst 0, 1) := by decide +kernel
theorem dX5_isHome_15 : decode cX5_isHome 15 = .ok (.ireturn, 1) := by decide +kernel
theorem dX5_laysBy_0 : decode cX5_laysBy 0 = .ok (.iconst 0, 1) := by decide +kernel
theorem dX5_laysBy_1 : decode cX5_laysBy 1 = .ok (.istore_n 1, 1) := by decide +kernel
theorem dX5_laysBy_2 : decode cX5_laysBy 2 = .ok (.iload_n 1, 1) := by decide +kernel
theorem dX5_laysBy_3 : decode cX5_laysBy 3 = .ok (.bipush 77, 2) := by decide +kernel
theorem dX5_laysBy_5 : decode cX5_laysBy 5 = .ok (.if_icmp .ge 21, 3) := by decide +kernel
theorem dX5_laysBy_8 : decode cX5_laysBy 8 = .ok (.aload_n 0, 1) := by decide +kernel
theorem dX5_laysBy_9 : decode cX5_laysBy 9 = .ok (.getfield 16, 3) := by decide +kernel
theorem dX5_laysBy_12 : decode cX5_laysBy 12 = .ok (.iload_n 1, 1) := by decide +kernel
theorem dX5_laysBy_13 : decode cX5_laysBy 13 = .ok (.aload_n 0, 1) := by decide +kernel
theorem dX5_laysBy_14 : decode cX5_laysBy 14 = .ok (.getfield 7, 3) := by decide +kernel
theorem dX5_laysBy_17 : decode cX5_laysBy 17 = .ok (.iload_n 1, 1) := by decide +kernel
theorem dX5_laysBy_18 : decode cX5_laysBy 18 = .ok (.iaload, 1) := by decide +kernel
theorem dX5_laysBy_19 : decode cX5_laysBy 19 = .ok (.iastore, 1) := by decide +kernel
theorem dX5_laysBy_20 : decode cX5_laysBy 20 = .ok (.iinc 1 1, 3) := by decide +kernel
theorem dX5_laysBy_23 : decode cX5_laysBy 23 = .ok (.goto (-21), 3) := by decide +kernel
theorem dX5_laysBy_26 : decode cX5_laysBy 26 = .ok (.return_, 1) := by decide +kernel
theorem dX5_laysBack_0 : decode cX5_laysBack 0 = .ok (.iconst 0, 1) := by decide +kernel
theorem dX5_laysBack_1 : decode cX5_laysBack 1 = .ok (.istore_n 1, 1) := by decide +kernel
theorem dX5_laysBack_2 : decode cX5_laysBack 2 = .ok (.iload_n 1, 1) := by decide +kernel
theorem dX5_laysBack_3 : decode cX5_laysBack 3 = .ok (.bipush 77, 2) := by decide +kernel
theorem dX5_laysBack_5 : decode cX5_laysBack 5 = .ok (.if_icmp .ge 21, 3) := by decide +kernel
theorem dX5_laysBack_8 : decode cX5_laysBack 8 = .ok (.aload_n 0, 1) := by decide +kernel
theorem dX5_laysBack_9 : decode cX5_laysBack 9 = .ok (.getfield 7, 3) := by decide +kernel
theorem dX5_laysBack_12 : decode cX5_laysBack 12 = .ok (.iload_n 1, 1) := by decide +kernel
theorem dX5_laysBack_13 : decode cX5_laysBack 13 = .ok (.aload_n 0, 1) := by decide +kernel
theorem dX5_laysBack_14 : decode cX5_laysBack 14 = .ok (.getfield 16, 3) := by decide +kernel
theorem dX5_laysBack_17 : decode cX5_laysBack 17 = .ok (.iload_n 1, 1) := by decide +kernel
theorem dX5_laysBack_18 : decode cX5_laysBack 18 = .ok (.iaload, 1) := by decide +kernel
theorem dX5_laysBack_19 : decode cX5_laysBack 19 = .ok (.iastore, 1) := by decide +kernel
theorem dX5_laysBack_20 : decode cX5_laysBack 20 = .ok (.iinc 1 1, 3) := by decide +kernel
theorem dX5_laysBack_23 : decode cX5_laysBack 23 = .ok (.goto (-21), 3) := by decide +kernel
theorem dX5_laysBack_26 : decode cX5_laysBack 26 = .ok (.return_, 1) := by decide +kernel
theorem dX5_leastOf_0 : decode cX5_leastOf 0 = .ok (.iload_n 0, 1) := by decide +kernel
theorem dX5_leastOf_1 : decode cX5_leastOf 1 = .ok (.ifCond .ne 8, 3) := by decide +kernel
theorem dX5_leastOf_4 : decode cX5_leastOf 4 = .ok (.bipush 10, 2) := by decide +kernel
theorem dX5_leastOf_6 : decode cX5_leastOf 6 = .ok (.goto 4, 3) := by decide +kernel
theorem dX5_leastOf_9 : decode cX5_leastOf 9 = .ok (.iconst 0, 1) := by decide +kernel
theorem dX5_leastOf_10 : decode cX5_leastOf 10 = .ok (.ireturn, 1) := by decide +kernel
theorem dX5_mostOf_0 : decode cX5_mostOf 0 = .ok (.iload_n 0, 1) := by decide +kernel
theorem dX5_mostOf_1 : decode cX5_mostOf 1 = .ok (.ifCond .ne 9, 3) := by decide +kernel
theorem dX5_mostOf_4 : decode cX5_mostOf 4 = .ok (.sipush 9999, 3) := by decide +kernel
theorem dX5_mostOf_7 : decode cX5_mostOf 7 = .ok (.goto 13, 3) := by decide +kernel
theorem dX5_mostOf_10 : decode cX5_mostOf 10 = .ok (.iload_n 0, 1) := by decide +kernel
theorem dX5_mostOf_11 : decode cX5_mostOf 11 = .ok (.iconst 1, 1) := by decide +kernel
theorem dX5_mostOf_12 : decode cX5_mostOf 12 = .ok (.if_icmp .ne 7, 3) := by decide +kernel
theorem dX5_mostOf_15 : decode cX5_mostOf 15 = .ok (.iconst 5, 1) := by decide +kernel
theorem dX5_mostOf_16 : decode cX5_mostOf 16 = .ok (.goto 4, 3) := by decide +kernel
theorem dX5_mostOf_19 : decode cX5_mostOf 19 = .ok (.iconst 3, 1) := by decide +kernel
theorem dX5_mostOf_20 : decode cX5_mostOf 20 = .ok (.ireturn, 1) := by decide +kernel
set_option maxRecDepth 20000 in
theorem ggX5_let_X5_isIn : GoodIn wsX5_let wsX5_isIn := goodIn_r _ [8] rfl (by decide +kernel)
set_option maxRecDepth 20000 in
theorem gX5_let_X5_isIn : GoodIn wsX5_let (va_wsS RX5 50 yX5_isIn wsX5_isIn) := goodIn_app (goodIn_of _ (by decide +kernel)) ggX5_let_X5_isIn
set_option maxRecDepth 20000 in
theorem ggX5_let_X5_leastOf : GoodIn wsX5_let wsX5_leastOf := goodIn_r _ [11] rfl (by decide +kernel)
set_option maxRecDepth 20000 in
theorem gX5_let_X5_leastOf : GoodIn wsX5_let (va_wsS RX5 54 yX5_leastOf wsX5_leastOf) := goodIn_app (goodIn_of _ (by decide +kernel)) ggX5_let_X5_leastOf
set_option maxRecDepth 20000 in
theorem ggX5_let_X5_mostOf : GoodIn wsX5_let wsX5_mostOf := goodIn_r _ [14] rfl (by decide +kernel)
set_option maxRecDepth 20000 in
theorem gX5_let_X5_mostOf : GoodIn wsX5_let (va_wsS RX5 57 yX5_mostOf wsX5_mostOf) := goodIn_app (goodIn_of _ (by decide +kernel)) ggX5_let_X5_mostOf
set_option maxRecDepth 20000 in
theorem ggX5_let_X5_finds : GoodIn wsX5_let wsX5_finds := goodIn_r _ [18, 19, 2, 24, 25, 26, 27, 28, 29, 30, 31, 32, 33, 34, 35, 36, 37, 38] rfl (by decide +kernel)
set_option maxRecDepth 20000 in
theorem gX5_let_X5_finds : GoodIn wsX5_let (wsV RX5 40 RX5 yX5_finds wsX5_finds) := goodIn_app (goodIn_of _ (by decide +kernel)) ggX5_let_X5_finds
set_option maxRecDepth 20000 in
theorem ggX5_let_X5_becomes : GoodIn wsX5_let wsX5_becomes := goodIn_r _ [23, 3, 24, 25, 26, 27, 28, 29, 30, 31, 32, 33, 34, 35, 36, 37, 38] rfl (by decide +kernel)
set_option maxRecDepth 20000 in
theorem gX5_let_X5_becomes : GoodIn wsX5_let (wsV RX5 61 RX5 yX5_becomes wsX5_becomes) := goodIn_app (goodIn_of _ (by decide +kernel)) ggX5_let_X5_becomes
theorem dX5_let_0 : decode cX5_let 0 = .ok (.iload_n 1, 1) := by decide +kernel
theorem dX5_let_1 : decode cX5_let 1 = .ok (.i2l, 1) := by decide +kernel
theorem dX5_let_2 : decode cX5_let 2 = .ok (.lconst 0, 1) := by decide +kernel
theorem dX5_let_3 : decode cX5_let 3 = .ok (.ldc2_w 48, 3) := by decide +kernel
theorem dX5_let_6 : decode cX5_let 6 = .ok (.invokestatic 50, 3) := by decide +kernel
theorem dX5_let_9 : decode cX5_let 9 = .ok (.ifCond .eq 21, 3) := by decide +kernel
theorem dX5_let_12 : decode cX5_let 12 = .ok (.iload_n 2, 1) := by decide +kernel
theorem dX5_let_13 : decode cX5_let 13 = .ok (.i2l, 1) := by decide +kernel
theorem dX5_let_14 : decode cX5_let 14 = .ok (.iload_n 1, 1) := by decide +kernel
theorem dX5_let_15 : decode cX5_let 15 = .ok (.invokestatic 54, 3) := by decide +kernel
theorem dX5_let_18 : decode cX5_let 18 = .ok (.i2l, 1) := by decide +kernel
theorem dX5_let_19 : decode cX5_let 19 = .ok (.iload_n 1, 1) := by decide +kernel
theorem dX5_let_20 : decode cX5_let 20 = .ok (.invokestatic 57, 3) := by decide +kernel
theorem dX5_let_23 : decode cX5_let 23 = .ok (.i2l, 1) := by decide +kernel
theorem dX5_let_24 : decode cX5_let 24 = .ok (.invokestatic 50, 3) := by decide +kernel
theorem dX5_let_27 : decode cX5_let 27 = .ok (.ifCond .ne 10, 3) := by decide +kernel
theorem dX5_let_30 : decode cX5_let 30 = .ok (.aload_n 0, 1) := by decide +kernel
theorem dX5_let_31 : decode cX5_let 31 = .ok (.ldc 38, 2) := by decide +kernel
theorem dX5_let_33 : decode cX5_let 33 = .ok (.invokevirtual 40, 3) := by decide +kernel
theorem dX5_let_36 : decode cX5_let 36 = .ok (.ireturn, 1) := by decide +kernel
theorem dX5_let_37 : decode cX5_let 37 = .ok (.iload_n 1, 1) := by decide +kernel
theorem dX5_let_38 : decode cX5_let 38 = .ok (.ifCond .ne 19, 3) := by decide +kernel
theorem dX5_let_41 : decode cX5_let 41 = .ok (.aload_n 0, 1) := by decide +kernel
theorem dX5_let_42 : decode cX5_let 42 = .ok (.getfield 7, 3) := by decide +kernel
theorem dX5_let_45 : decode cX5_let 45 = .ok (.iconst 0, 1) := by decide +kernel
theorem dX5_let_46 : decode cX5_let 46 = .ok (.iaload, 1) := by decide +kernel
theorem dX5_let_47 : decode cX5_let 47 = .ok (.ifCond .le 10, 3) := by decide +kernel
theorem dX5_let_50 : decode cX5_let 50 = .ok (.aload_n 0, 1) := by decide +kernel
theorem dX5_let_51 : decode cX5_let 51 = .ok (.ldc 60, 2) := by decide +kernel
theorem dX5_let_53 : decode cX5_let 53 = .ok (.invokevirtual 40, 3) := by decide +kernel
theorem dX5_let_56 : decode cX5_let 56 = .ok (.ireturn, 1) := by decide +kernel
theorem dX5_let_57 : decode cX5_let 57 = .ok (.aload_n 0, 1) := by decide +kernel
theorem dX5_let_58 : decode cX5_let 58 = .ok (.iconst 1, 1) := by decide +kernel
theorem dX5_let_59 : decode cX5_let 59 = .ok (.iload_n 1, 1) := by decide +kernel
theorem dX5_let_60 : decode cX5_let 60 = .ok (.iadd, 1) := by decide +kernel
theorem dX5_let_61 : decode cX5_let 61 = .ok (.iload_n 2, 1) := by decide +kernel
theorem dX5_let_62 : decode cX5_let 62 = .ok (.invokevirtual 61, 3) := by decide +kernel
theorem dX5_let_65 : decode cX5_let 65 = .ok (.ireturn, 1) := by decide +kernel
set_option maxRecDepth 20000 in
theorem ggX5_comes_X5_puts : GoodIn wsX5_comes wsX5_puts := goodIn_r _ [6, 1, 7, 8, 9, 10, 11, 12, 13, 14, 15, 16, 17, 18, 19, 20, 21] rfl (by decide +kernel)
set_option maxRecDepth 20000 in
theorem gX5_comes_X5_puts : GoodIn wsX5_comes (wsV RX5 64 RX5 yX5_puts wsX5_puts) := goodIn_app (goodIn_of _ (by decide +kernel)) ggX5_comes_X5_puts
theorem dX5_comes_0 : decode cX5_comes 0 = .ok (.aload_n 0, 1) := by decide +kernel
theorem dX5_comes_1 : decode cX5_comes 1 = .ok (.getfield 7, 3) := by decide +kernel
theorem dX5_comes_4 : decode cX5_comes 4 = .ok (.iconst 0, 1) := by decide +kernel
theorem dX5_comes_5 : decode cX5_comes 5 = .ok (.iaload, 1) := by decide +kernel
theorem dX5_comes_6 : decode cX5_comes 6 = .ok (.istore_n 3, 1) := by decide +kernel
theorem dX5_comes_7 : decode cX5_comes 7 = .ok (.aload_n 0, 1) := by decide +kernel
theorem dX5_comes_8 : decode cX5_comes 8 = .ok (.getfield 7, 3) := by decide +kernel
theorem dX5_comes_11 : decode cX5_comes 11 = .ok (.iconst 0, 1) := by decide +kernel
theorem dX5_comes_12 : decode cX5_comes 12 = .ok (.dup2, 1) := by decide +kernel
theorem dX5_comes_13 : decode cX5_comes 13 = .ok (.iaload, 1) := by decide +kernel
theorem dX5_comes_14 : decode cX5_comes 14 = .ok (.iconst 1, 1) := by decide +kernel
theorem dX5_comes_15 : decode cX5_comes 15 = .ok (.iadd, 1) := by decide +kernel
theorem dX5_comes_16 : decode cX5_comes 16 = .ok (.iastore, 1) := by decide +kernel
theorem dX5_comes_17 : decode cX5_comes 17 = .ok (.aload_n 0, 1) := by decide +kernel
theorem dX5_comes_18 : decode cX5_comes 18 = .ok (.iload_n 3, 1) := by decide +kernel
theorem dX5_comes_19 : decode cX5_comes 19 = .ok (.iconst 0, 1) := by decide +kernel
theorem dX5_comes_20 : decode cX5_comes 20 = .ok (.iload_n 1, 1) := by decide +kernel
theorem dX5_comes_21 : decode cX5_comes 21 = .ok (.invokevirtual 64, 3) := by decide +kernel
theorem dX5_comes_24 : decode cX5_comes 24 = .ok (.aload_n 0, 1) := by decide +kernel
theorem dX5_comes_25 : decode cX5_comes 25 = .ok (.iload_n 3, 1) := by decide +kernel
theorem dX5_comes_26 : decode cX5_comes 26 = .ok (.iconst 1, 1) := by decide +kernel
theorem dX5_comes_27 : decode cX5_comes 27 = .ok (.iload_n 2, 1) := by decide +kernel
theorem dX5_comes_28 : decode cX5_comes 28 = .ok (.invokevirtual 64, 3) := by decide +kernel
theorem dX5_comes_31 : decode cX5_comes 31 = .ok (.aload_n 0, 1) := by decide +kernel
theorem dX5_comes_32 : decode cX5_comes 32 = .ok (.iload_n 3, 1) := by decide +kernel
theorem dX5_comes_33 : decode cX5_comes 33 = .ok (.iconst 2, 1) := by decide +kernel
theorem dX5_comes_34 : decode cX5_comes 34 = .ok (.bipush 100, 2) := by decide +kernel
theorem dX5_comes_36 : decode cX5_comes 36 = .ok (.invokevirtual 64, 3) := by decide +kernel
theorem dX5_comes_39 : decode cX5_comes 39 = .ok (.aload_n 0, 1) := by decide +kernel
theorem dX5_comes_40 : decode cX5_comes 40 = .ok (.iload_n 3, 1) := by decide +kernel
theorem dX5_comes_41 : decode cX5_comes 41 = .ok (.iconst 3, 1) := by decide +kernel
theorem dX5_comes_42 : decode cX5_comes 42 = .ok (.iconst (-1), 1) := by decide +kernel
theorem dX5_comes_43 : decode cX5_comes 43 = .ok (.invokevirtual 64, 3) := by decide +kernel
theorem dX5_comes_46 : decode cX5_comes 46 = .ok (.aload_n 0, 1) := by decide +kernel
theorem dX5_comes_47 : decode cX5_comes 47 = .ok (.iload_n 3, 1) := by decide +kernel
theorem dX5_comes_48 : decode cX5_comes 48 = .ok (.iconst 4, 1) := by decide +kernel
theorem dX5_comes_49 : decode cX5_comes 49 = .ok (.iconst 0, 1) := by decide +kernel
theorem dX5_comes_50 : decode cX5_comes 50 = .ok (.invokevirtual 64, 3) := by decide +kernel
theorem dX5_comes_53 : decode cX5_comes 53 = .ok (.aload_n 0, 1) := by decide +kernel
theorem dX5_comes_54 : decode cX5_comes 54 = .ok (.iload_n 3, 1) := by decide +kernel
theorem dX5_comes_55 : decode cX5_comes 55 = .ok (.iconst 5, 1) := by decide +kernel
theorem dX5_comes_56 : decode cX5_comes 56 = .ok (.iconst 0, 1) := by decide +kernel
theorem dX5_comes_57 : decode cX5_comes 57 = .ok (.invokevirtual 64, 3) := by decide +kernel
theorem dX5_comes_60 : decode cX5_comes 60 = .ok (.aload_n 0, 1) := by decide +kernel
theorem dX5_comes_61 : decode cX5_comes 61 = .ok (.iload_n 3, 1) := by decide +kernel
theorem dX5_comes_62 : decode cX5_comes 62 = .ok (.bipush 6, 2) := by decide +kernel
theorem dX5_comes_64 : decode cX5_comes 64 = .ok (.iconst 0, 1) := by decide +kernel
theorem dX5_comes_65 : decode cX5_comes 65 = .ok (.invokevirtual 64, 3) := by decide +kernel
theorem dX5_comes_68 : decode cX5_comes 68 = .ok (.aload_n 0, 1) := by decide +kernel
theorem dX5_comes_69 : decode cX5_comes 69 = .ok (.iload_n 3, 1) := by decide +kernel
theorem dX5_comes_70 : decode cX5_comes 70 = .ok (.bipush 7, 2) := by decide +kernel
theorem dX5_comes_72 : decode cX5_comes 72 = .ok (.iconst (-1), 1) := by decide +kernel
theorem dX5_comes_73 : decode cX5_comes 73 = .ok (.invokevirtual 64, 3) := by decide +kernel
theorem dX5_comes_76 : decode cX5_comes 76 = .ok (.iload_n 3, 1) := by decide +kernel
theorem dX5_comes_77 : decode cX5_comes 77 = .ok (.ireturn, 1) := by decide +kernel
set_option maxRecDepth 20000 in
theorem ggX5_runner_X5_isIn : GoodIn wsX5_runner wsX5_isIn := goodIn_r _ [10] rfl (by decide +kernel)
set_option maxRecDepth 20000 in
theorem gX5_runner_X5_isIn : GoodIn wsX5_runner (va_wsS RX5 50 yX5_isIn wsX5_isIn) := goodIn_app (goodIn_of _ (by decide +kernel)) ggX5_runner_X5_isIn
set_option maxRecDepth 20000 in
theorem ggX5_runner_X5_finds : GoodIn wsX5_runner wsX5_finds := goodIn_r _ [14, 15, 4, 24, 25, 26, 27, 28, 29, 30, 31, 32, 33, 34, 35, 36, 37, 38] rfl (by decide +kernel)
set_option maxRecDepth 20000 in
theorem gX5_runner_X5_finds : GoodIn wsX5_runner (wsV RX5 40 RX5 yX5_finds wsX5_finds) := goodIn_app (goodIn_of _ (by decide +kernel)) ggX5_runner_X5_finds
set_option maxRecDepth 20000 in
theorem ggX5_runner_X5_comes : GoodIn wsX5_runner wsX5_comes := goodIn_r _ [19, 5, 20, 21, 22, 9, 23, 24, 25, 26, 27, 28, 29, 30, 31, 32, 33, 34, 35, 36, 37, 38] rfl (by decide +kernel)
set_option maxRecDepth 20000 in
theorem gX5_runner_X5_comes : GoodIn wsX5_runner (wsV RX5 75 RX5 yX5_comes wsX5_comes) := goodIn_app (goodIn_of _ (by decide +kernel)) ggX5_runner_X5_comes
set_option maxRecDepth 20000 in
theorem ggX5_runner_X5_puts : GoodIn wsX5_runner wsX5_puts := goodIn_r _ [23, 5, 24, 25, 26, 27, 28, 29, 30, 31, 32, 33, 34, 35, 36, 37, 38] rfl (by decide +kernel)
set_option maxRecDepth 20000 in
theorem gX5_runner_X5_puts : GoodIn wsX5_runner (wsV RX5 64 RX5 yX5_puts wsX5_puts) := goodIn_app (goodIn_of _ (by decide +kernel)) ggX5_runner_X5_puts
theorem dX5_runner_0 : decode cX5_runner 0 = .ok (.iload_n 1, 1) := by decide +kernel
theorem dX5_runner_1 : decode cX5_runner 1 = .ok (.i2l, 1) := by decide +kernel
theorem dX5_runner_2 : decode cX5_runner 2 = .ok (.lconst 0, 1) := by decide +kernel
theorem dX5_runner_3 : decode cX5_runner 3 = .ok (.ldc2_w 68, 3) := by decide +kernel
theorem dX5_runner_6 : decode cX5_runner 6 = .ok (.invokestatic 50, 3) := by decide +kernel
theorem dX5_runner_9 : decode cX5_runner 9 = .ok (.ifCond .eq 27, 3) := by decide +kernel
theorem dX5_runner_12 : decode cX5_runner 12 = .ok (.iload_n 2, 1) := by decide +kernel
theorem dX5_runner_13 : decode cX5_runner 13 = .ok (.i2l, 1) := by decide +kernel
theorem dX5_runner_14 : decode cX5_runner 14 = .ok (.lconst 1, 1) := by decide +kernel
theorem dX5_runner_15 : decode cX5_runner 15 = .ok (.ldc2_w 70, 3) := by decide +kernel
theorem dX5_runner_18 : decode cX5_runner 18 = .ok (.invokestatic 50, 3) := by decide +kernel
theorem dX5_runner_21 : decode cX5_runner 21 = .ok (.ifCond .eq 15, 3) := by decide +kernel
theorem dX5_runner_24 : decode cX5_runner 24 = .ok (.iload_n 3, 1) := by decide +kernel
theorem dX5_runner_25 : decode cX5_runner 25 = .ok (.i2l, 1) := by decide +kernel
theorem dX5_runner_26 : decode cX5_runner 26 = .ok (.lconst 0, 1) := by decide +kernel
theorem dX5_runner_27 : decode cX5_runner 27 = .ok (.ldc2_w 72, 3) := by decide +kernel
theorem dX5_runner_30 : decode cX5_runner 30 = .ok (.invokestatic 50, 3) := by decide +kernel
theorem dX5_runner_33 : decode cX5_runner 33 = .ok (.ifCond .ne 10, 3) := by decide +kernel
theorem dX5_runner_36 : decode cX5_runner 36 = .ok (.aload_n 0, 1) := by decide +kernel
theorem dX5_runner_37 : decode cX5_runner 37 = .ok (.ldc 38, 2) := by decide +kernel
theorem dX5_runner_39 : decode cX5_runner 39 = .ok (.invokevirtual 40, 3) := by decide +kernel
theorem dX5_runner_42 : decode cX5_runner 42 = .ok (.ireturn, 1) := by decide +kernel
theorem dX5_runner_43 : decode cX5_runner 43 = .ok (.aload_n 0, 1) := by decide +kernel
theorem dX5_runner_44 : decode cX5_runner 44 = .ok (.getfield 7, 3) := by decide +kernel
theorem dX5_runner_47 : decode cX5_runner 47 = .ok (.iconst 0, 1) := by decide +kernel
theorem dX5_runner_48 : decode cX5_runner 48 = .ok (.iaload, 1) := by decide +kernel
theorem dX5_runner_49 : decode cX5_runner 49 = .ok (.bipush 9, 2) := by decide +kernel
theorem dX5_runner_51 : decode cX5_runner 51 = .ok (.if_icmp .ne 10, 3) := by decide +kernel
theorem dX5_runner_54 : decode cX5_runner 54 = .ok (.aload_n 0, 1) := by decide +kernel
theorem dX5_runner_55 : decode cX5_runner 55 = .ok (.ldc 74, 2) := by decide +kernel
theorem dX5_runner_57 : decode cX5_runner 57 = .ok (.invokevirtual 40, 3) := by decide +kernel
theorem dX5_runner_60 : decode cX5_runner 60 = .ok (.ireturn, 1) := by decide +kernel
theorem dX5_runner_61 : decode cX5_runner 61 = .ok (.aload_n 0, 1) := by decide +kernel
theorem dX5_runner_62 : decode cX5_runner 62 = .ok (.iload_n 1, 1) := by decide +kernel
theorem dX5_runner_63 : decode cX5_runner 63 = .ok (.iload_n 2, 1) := by decide +kernel
theorem dX5_runner_64 : decode cX5_runner 64 = .ok (.invokevirtual 75, 3) := by decide +kernel
theorem dX5_runner_67 : decode cX5_runner 67 = .ok (.istore 4, 2) := by decide +kernel
theorem dX5_runner_69 : decode cX5_runner 69 = .ok (.aload_n 0, 1) := by decide +kernel
theorem dX5_runner_70 : decode cX5_runner 70 = .ok (.iload 4, 2) := by decide +kernel
theorem dX5_runner_72 : decode cX5_runner 72 = .ok (.iconst 2, 1) := by decide +kernel
theorem dX5_runner_73 : decode cX5_runner 73 = .ok (.iload_n 3, 1) := by decide +kernel
theorem dX5_runner_74 : decode cX5_runner 74 = .ok (.invokevirtual 64, 3) := by decide +kernel
theorem dX5_runner_77 : decode cX5_runner 77 = .ok (.iload 4, 2) := by decide +kernel
theorem dX5_runner_79 : decode cX5_runner 79 = .ok (.ireturn, 1) := by decide +kernel
set_option maxRecDepth 20000 in
theorem ggX5_isAhead_X5_isHome : GoodIn wsX5_isAhead wsX5_isHome := goodIn_r _ [5, 6, 7, 8, 4, 9, 10, 11, 12, 13, 14, 15, 16, 17, 18, 19, 20, 21, 22, 23, 24, 25] rfl (by decide +kernel)
set_option maxRecDepth 20000 in
theorem gX5_isAhead_X5_isHome : GoodIn wsX5_isAhead (wsV RX5 78 RX5 yX5_isHome wsX5_isHome) := goodIn_app (goodIn_of _ (by decide +kernel)) ggX5_isAhead_X5_isHome
set_option maxRecDepth 20000 in
theorem ggX5_isAhead_X5_is : GoodIn wsX5_isAhead wsX5_is := goodIn_r _ [9, 10, 11, 12, 13, 14, 15, 16, 17, 18, 19, 20, 21, 22, 23, 24, 25] rfl (by decide +kernel)
set_option maxRecDepth 20000 in
theorem gX5_isAhead_X5_is : GoodIn wsX5_isAhead (wsV RX5 44 RX5 yX5_is wsX5_is) := goodIn_app (goodIn_of _ (by decide +kernel)) ggX5_isAhead_X5_is
theorem dX5_isAhead_0 : decode cX5_isAhead 0 = .ok (.aload_n 0, 1) := by decide +kernel
theorem dX5_isAhead_1 : decode cX5_isAhead 1 = .ok (.iload_n 1, 1) := by decide +kernel
theorem dX5_isAhead_2 : decode cX5_isAhead 2 = .ok (.invokevirtual 78, 3) := by decide +kernel
theorem dX5_isAhead_5 : decode cX5_isAhead 5 = .ok (.aload_n 0, 1) := by decide +kernel
theorem dX5_isAhead_6 : decode cX5_isAhead 6 = .ok (.iload_n 2, 1) := by decide +kernel
theorem dX5_isAhead_7 : decode cX5_isAhead 7 = .ok (.invokevirtual 78, 3) := by decide +kernel
theorem dX5_isAhead_10 : decode cX5_isAhead 10 = .ok (.if_icmp .eq 9, 3) := by decide +kernel
theorem dX5_isAhead_13 : decode cX5_isAhead 13 = .ok (.aload_n 0, 1) := by decide +kernel
theorem dX5_isAhead_14 : decode cX5_isAhead 14 = .ok (.iload_n 1, 1) := by decide +kernel
theorem dX5_isAhead_15 : decode cX5_isAhead 15 = .ok (.invokevirtual 78, 3) := by decide +kernel
theorem dX5_isAhead_18 : decode cX5_isAhead 18 = .ok (.ireturn, 1) := by decide +kernel
theorem dX5_isAhead_19 : decode cX5_isAhead 19 = .ok (.aload_n 0, 1) := by decide +kernel
theorem dX5_isAhead_20 : decode cX5_isAhead 20 = .ok (.iload_n 1, 1) := by decide +kernel
theorem dX5_isAhead_21 : decode cX5_isAhead 21 = .ok (.bipush 7, 2) := by decide +kernel
theorem dX5_isAhead_23 : decode cX5_isAhead 23 = .ok (.invokevirtual 44, 3) := by decide +kernel
theorem dX5_isAhead_26 : decode cX5_isAhead 26 = .ok (.aload_n 0, 1) := by decide +kernel
theorem dX5_isAhead_27 : decode cX5_isAhead 27 = .ok (.iload_n 2, 1) := by decide +kernel
theorem dX5_isAhead_28 : decode cX5_isAhead 28 = .ok (.bipush 7, 2) := by decide +kernel
theorem dX5_isAhead_30 : decode cX5_isAhead 30 = .ok (.invokevirtual 44, 3) := by decide +kernel
theorem dX5_isAhead_33 : decode cX5_isAhead 33 = .ok (.if_icmp .eq 26, 3) := by decide +kernel
theorem dX5_isAhead_36 : decode cX5_isAhead 36 = .ok (.aload_n 0, 1) := by decide +kernel
theorem dX5_isAhead_37 : decode cX5_isAhead 37 = .ok (.iload_n 1, 1) := by decide +kernel
theorem dX5_isAhead_38 : decode cX5_isAhead 38 = .ok (.bipush 7, 2) := by decide +kernel
theorem dX5_isAhead_40 : decode cX5_isAhead 40 = .ok (.invokevirtual 44, 3) := by decide +kernel
theorem dX5_isAhead_43 : decode cX5_isAhead 43 = .ok (.aload_n 0, 1) := by decide +kernel
theorem dX5_isAhead_44 : decode cX5_isAhead 44 = .ok (.iload_n 2, 1) := by decide +kernel
theorem dX5_isAhead_45 : decode cX5_isAhead 45 = .ok (.bipush 7, 2) := by decide +kernel
theorem dX5_isAhead_47 : decode cX5_isAhead 47 = .ok (.invokevirtual 44, 3) := by decide +kernel
theorem dX5_isAhead_50 : decode cX5_isAhead 50 = .ok (.if_icmp .ge 7, 3) := by decide +kernel
theorem dX5_isAhead_53 : decode cX5_isAhead 53 = .ok (.iconst 1, 1) := by decide +kernel
theorem dX5_isAhead_54 : decode cX5_isAhead 54 = .ok (.goto 4, 3) := by decide +kernel
theorem dX5_isAhead_57 : decode cX5_isAhead 57 = .ok (.iconst 0, 1) := by decide +kernel
theorem dX5_isAhead_58 : decode cX5_isAhead 58 = .ok (.ireturn, 1) := by decide +kernel
theorem dX5_isAhead_59 : decode cX5_isAhead 59 = .ok (.aload_n 0, 1) := by decide +kernel
theorem dX5_isAhead_60 : decode cX5_isAhead 60 = .ok (.iload_n 1, 1) := by decide +kernel
theorem dX5_isAhead_61 : decode cX5_isAhead 61 = .ok (.iconst 5, 1) := by decide +kernel
theorem dX5_isAhead_62 : decode cX5_isAhead 62 = .ok (.invokevirtual 44, 3) := by decide +kernel
theorem dX5_isAhead_65 : decode cX5_isAhead 65 = .ok (.aload_n 0, 1) := by decide +kernel
theorem dX5_isAhead_66 : decode cX5_isAhead 66 = .ok (.iload_n 2, 1) := by decide +kernel
theorem dX5_isAhead_67 : decode cX5_isAhead 67 = .ok (.iconst 5, 1) := by decide +kernel
theorem dX5_isAhead_68 : decode cX5_isAhead 68 = .ok (.invokevirtual 44, 3) := by decide +kernel
theorem dX5_isAhead_71 : decode cX5_isAhead 71 = .ok (.if_icmp .eq 26, 3) := by decide +kernel
theorem dX5_isAhead_74 : decode cX5_isAhead 74 = .ok (.aload_n 0, 1) := by decide +kernel
theorem dX5_isAhead_75 : decode cX5_isAhead 75 = .ok (.iload_n 1, 1) := by decide +kernel
theorem dX5_isAhead_76 : decode cX5_isAhead 76 = .ok (.iconst 5, 1) := by decide +kernel
theorem dX5_isAhead_77 : decode cX5_isAhead 77 = .ok (.invokevirtual 44, 3) := by decide +kernel
theorem dX5_isAhead_80 : decode cX5_isAhead 80 = .ok (.aload_n 0, 1) := by decide +kernel
theorem dX5_isAhead_81 : decode cX5_isAhead 81 = .ok (.iload_n 2, 1) := by decide +kernel
theorem dX5_isAhead_82 : decode cX5_isAhead 82 = .ok (.iconst 5, 1) := by decide +kernel
theorem dX5_isAhead_83 : decode cX5_isAhead 83 = .ok (.invokevirtual 44, 3) := by decide +kernel
theorem dX5_isAhead_86 : decode cX5_isAhead 86 = .ok (.if_icmp .le 7, 3) := by decide +kernel
theorem dX5_isAhead_89 : decode cX5_isAhead 89 = .ok (.iconst 1, 1) := by decide +kernel
theorem dX5_isAhead_90 : decode cX5_isAhead 90 = .ok (.goto 17, 3) := by decide +kernel
theorem dX5_isAhead_93 : decode cX5_isAhead 93 = .ok (.iconst 0, 1) := by decide +kernel
theorem dX5_isAhead_94 : decode cX5_isAhead 94 = .ok (.goto 13, 3) := by decide +kernel
theorem dX5_isAhead_97 : decode cX5_isAhead 97 = .ok (.iload_n 1, 1) := by decide +kernel
theorem dX5_isAhead_98 : decode cX5_isAhead 98 = .ok (.iload_n 2, 1) := by decide +kernel
theorem dX5_isAhead_99 : decode cX5_isAhead 99 = .ok (.if_icmp .ge 7, 3) := by decide +kernel
theorem dX5_isAhead_102 : decode cX5_isAhead 102 = .ok (.iconst 1, 1) := by decide +kernel
theorem dX5_isAhead_103 : decode cX5_isAhead 103 = .ok (.goto 4, 3) := by decide +kernel
theorem dX5_isAhead_106 : decode cX5_isAhead 106 = .ok (.iconst 0, 1) := by decide +kernel
theorem dX5_isAhead_107 : decode cX5_isAhead 107 = .ok (.ireturn, 1) := by decide +kernel
set_option maxRecDepth 20000 in
theorem ggX5_placeOf_X5_isAhead : GoodIn wsX5_placeOf wsX5_isAhead := goodIn_r _ [6, 7, 8, 9, 5, 10, 11, 12, 13, 14, 1, 15, 16, 17, 18, 19, 20, 21, 22, 23, 24, 25, 26, 27, 28, 29] rfl (by decide +kernel)
set_option maxRecDepth 20000 in
theorem gX5_placeOf_X5_isAhead : GoodIn wsX5_placeOf (wsV RX5 82 RX5 yX5_isAhead wsX5_isAhead) := goodIn_app (goodIn_of _ (by decide +kernel)) ggX5_placeOf_X5_isAhead
theorem dX5_placeOf_0 : decode cX5_placeOf 0 = .ok (.iconst 0, 1) := by decide +kernel
theorem dX5_placeOf_1 : decode cX5_placeOf 1 = .ok (.istore_n 2, 1) := by decide +kernel
theorem dX5_placeOf_2 : decode cX5_placeOf 2 = .ok (.iconst 0, 1) := by decide +kernel
theorem dX5_placeOf_3 : decode cX5_placeOf 3 = .ok (.istore_n 3, 1) := by decide +kernel
theorem dX5_placeOf_4 : decode cX5_placeOf 4 = .ok (.iload_n 3, 1) := by decide +kernel
theorem dX5_placeOf_5 : decode cX5_placeOf 5 = .ok (.aload_n 0, 1) := by decide +kernel
theorem dX5_placeOf_6 : decode cX5_placeOf 6 = .ok (.getfield 7, 3) := by decide +kernel
theorem dX5_placeOf_9 : decode cX5_placeOf 9 = .ok (.iconst 0, 1) := by decide +kernel
theorem dX5_placeOf_10 : decode cX5_placeOf 10 = .ok (.iaload, 1) := by decide +kernel
theorem dX5_placeOf_11 : decode cX5_placeOf 11 = .ok (.if_icmp .ge 31, 3) := by decide +kernel
theorem dX5_placeOf_14 : decode cX5_placeOf 14 = .ok (.iload_n 2, 1) := by decide +kernel
theorem dX5_placeOf_15 : decode cX5_placeOf 15 = .ok (.iload_n 3, 1) := by decide +kernel
theorem dX5_placeOf_16 : decode cX5_placeOf 16 = .ok (.iload_n 1, 1) := by decide +kernel
theorem dX5_placeOf_17 : decode cX5_placeOf 17 = .ok (.if_icmp .eq 16, 3) := by decide +kernel
theorem dX5_placeOf_20 : decode cX5_placeOf 20 = .ok (.aload_n 0, 1) := by decide +kernel
theorem dX5_placeOf_21 : decode cX5_placeOf 21 = .ok (.iload_n 3, 1) := by decide +kernel
theorem dX5_placeOf_22 : decode cX5_placeOf 22 = .ok (.iload_n 1, 1) := by decide +kernel
theorem dX5_placeOf_23 : decode cX5_placeOf 23 = .ok (.invokevirtual 82, 3) := by decide +kernel
theorem dX5_placeOf_26 : decode cX5_placeOf 26 = .ok (.ifCond .eq 7, 3) := by decide +kernel
theorem dX5_placeOf_29 : decode cX5_placeOf 29 = .ok (.iconst 1, 1) := by decide +kernel
theorem dX5_placeOf_30 : decode cX5_placeOf 30 = .ok (.goto 4, 3) := by decide +kernel
theorem dX5_placeOf_33 : decode cX5_placeOf 33 = .ok (.iconst 0, 1) := by decide +kernel
theorem dX5_placeOf_34 : decode cX5_placeOf 34 = .ok (.iadd, 1) := by decide +kernel
theorem dX5_placeOf_35 : decode cX5_placeOf 35 = .ok (.istore_n 2, 1) := by decide +kernel
theorem dX5_placeOf_36 : decode cX5_placeOf 36 = .ok (.iinc 3 1, 3) := by decide +kernel
theorem dX5_placeOf_39 : decode cX5_placeOf 39 = .ok (.goto (-35), 3) := by decide +kernel
theorem dX5_placeOf_42 : decode cX5_placeOf 42 = .ok (.iload_n 2, 1) := by decide +kernel
theorem dX5_placeOf_43 : decode cX5_placeOf 43 = .ok (.ireturn, 1) := by decide +kernel
set_option maxRecDepth 20000 in
theorem ggX5_of_X5_isRunner : GoodIn wsX5_of wsX5_isRunner := goodIn_r _ [7, 8, 33, 34, 35, 36, 37, 38, 39, 40, 41, 42, 43, 44, 45, 46, 47] rfl (by decide +kernel)
set_option maxRecDepth 20000 in
theorem gX5_of_X5_isRunner : GoodIn wsX5_of (wsV RX5 86 RX5 yX5_isRunner wsX5_isRunner) := goodIn_app (goodIn_of _ (by decide +kernel)) ggX5_of_X5_isRunner
set_option maxRecDepth 20000 in
theorem ggX5_of_X5_isIn : GoodIn wsX5_of wsX5_isIn := goodIn_r _ [11] rfl (by decide +kernel)
set_option maxRecDepth 20000 in
theorem gX5_of_X5_isIn : GoodIn wsX5_of (va_wsS RX5 50 yX5_isIn wsX5_isIn) := goodIn_app (goodIn_of _ (by decide +kernel)) ggX5_of_X5_isIn
set_option maxRecDepth 20000 in
theorem ggX5_of_X5_finds : GoodIn wsX5_of wsX5_finds := goodIn_r _ [15, 16, 2, 33, 34, 35, 36, 37, 38, 39, 40, 41, 42, 43, 44, 45, 46, 47] rfl (by decide +kernel)
set_option maxRecDepth 20000 in
theorem gX5_of_X5_finds : GoodIn wsX5_of (wsV RX5 40 RX5 yX5_finds wsX5_finds) := goodIn_app (goodIn_of _ (by decide +kernel)) ggX5_of_X5_finds
set_option maxRecDepth 20000 in
theorem ggX5_of_X5_is : GoodIn wsX5_of wsX5_is := goodIn_r _ [20, 8, 33, 34, 35, 36, 37, 38, 39, 40, 41, 42, 43, 44, 45, 46, 47] rfl (by decide +kernel)
set_option maxRecDepth 20000 in
theorem gX5_of_X5_is : GoodIn wsX5_of (wsV RX5 44 RX5 yX5_is wsX5_is) := goodIn_app (goodIn_of _ (by decide +kernel)) ggX5_of_X5_is
set_option maxRecDepth 20000 in
theorem ggX5_of_X5_placeOf : GoodIn wsX5_of wsX5_placeOf := goodIn_r _ [24, 8, 25, 26, 27, 6, 28, 29, 30, 31, 32, 17, 18, 19, 20, 33, 34, 35, 36, 37, 38, 39, 40, 41, 42, 43, 44, 45, 46, 47] rfl (by decide +kernel)
set_option maxRecDepth 20000 in
theorem gX5_of_X5_placeOf : GoodIn wsX5_of (wsV RX5 91 RX5 yX5_placeOf wsX5_placeOf) := goodIn_app (goodIn_of _ (by decide +kernel)) ggX5_of_X5_placeOf
theorem dX5_of_0 : decode cX5_of 0 = .ok (.aload_n 0, 1) := by decide +kernel
theorem dX5_of_1 : decode cX5_of 1 = .ok (.iload_n 1, 1) := by decide +kernel
theorem dX5_of_2 : decode cX5_of 2 = .ok (.invokevirtual 86, 3) := by decide +kernel
theorem dX5_of_5 : decode cX5_of 5 = .ok (.ifCond .eq 15, 3) := by decide +kernel
theorem dX5_of_8 : decode cX5_of 8 = .ok (.iload_n 2, 1) := by decide +kernel
theorem dX5_of_9 : decode cX5_of 9 = .ok (.i2l, 1) := by decide +kernel
theorem dX5_of_10 : decode cX5_of 10 = .ok (.lconst 0, 1) := by decide +kernel
theorem dX5_of_11 : decode cX5_of 11 = .ok (.ldc2_w 89, 3) := by decide +kernel
theorem dX5_of_14 : decode cX5_of 14 = .ok (.invokestatic 50, 3) := by decide +kernel
theorem dX5_of_17 : decode cX5_of 17 = .ok (.ifCond .ne 10, 3) := by decide +kernel
theorem dX5_of_20 : decode cX5_of 20 = .ok (.aload_n 0, 1) := by decide +kernel
theorem dX5_of_21 : decode cX5_of 21 = .ok (.ldc 38, 2) := by decide +kernel
theorem dX5_of_23 : decode cX5_of 23 = .ok (.invokevirtual 40, 3) := by decide +kernel
theorem dX5_of_26 : decode cX5_of 26 = .ok (.ireturn, 1) := by decide +kernel
theorem dX5_of_27 : decode cX5_of 27 = .ok (.iload_n 2, 1) := by decide +kernel
theorem dX5_of_28 : decode cX5_of 28 = .ok (.bipush 8, 2) := by decide +kernel
theorem dX5_of_30 : decode cX5_of 30 = .ok (.if_icmp .ge 12, 3) := by decide +kernel
theorem dX5_of_33 : decode cX5_of 33 = .ok (.aload_n 0, 1) := by decide +kernel
theorem dX5_of_34 : decode cX5_of 34 = .ok (.iload_n 1, 1) := by decide +kernel
theorem dX5_of_35 : decode cX5_of 35 = .ok (.iload_n 2, 1) := by decide +kernel
theorem dX5_of_36 : decode cX5_of 36 = .ok (.invokevirtual 44, 3) := by decide +kernel
theorem dX5_of_39 : decode cX5_of 39 = .ok (.goto 8, 3) := by decide +kernel
theorem dX5_of_42 : decode cX5_of 42 = .ok (.aload_n 0, 1) := by decide +kernel
theorem dX5_of_43 : decode cX5_of 43 = .ok (.iload_n 1, 1) := by decide +kernel
theorem dX5_of_44 : decode cX5_of 44 = .ok (.invokevirtual 91, 3) := by decide +kernel
theorem dX5_of_47 : decode cX5_of 47 = .ok (.ireturn, 1) := by decide +kernel
set_option maxRecDepth 20000 in
theorem ggX5_mayBe_X5_isIn : GoodIn wsX5_mayBe wsX5_isIn := goodIn_r _ [7] rfl (by decide +kernel)
set_option maxRecDepth 20000 in
theorem gX5_mayBe_X5_isIn : GoodIn wsX5_mayBe (va_wsS RX5 50 yX5_isIn wsX5_isIn) := goodIn_app (goodIn_of _ (by decide +kernel)) ggX5_mayBe_X5_isIn
set_option maxRecDepth 20000 in
theorem ggX5_mayBe_X5_isRunner : GoodIn wsX5_mayBe wsX5_isRunner := goodIn_r _ [11, 3, 12, 13, 14, 15, 16, 17, 18, 19, 20, 21, 22, 23, 24, 25, 26] rfl (by decide +kernel)
set_option maxRecDepth 20000 in
theorem gX5_mayBe_X5_isRunner : GoodIn wsX5_mayBe (wsV RX5 86 RX5 yX5_isRunner wsX5_isRunner) := goodIn_app (goodIn_of _ (by decide +kernel)) ggX5_mayBe_X5_isRunner
theorem dX5_mayBe_0 : decode cX5_mayBe 0 = .ok (.iload_n 2, 1) := by decide +kernel
theorem dX5_mayBe_1 : decode cX5_mayBe 1 = .ok (.tableswitch 91 1 4 #[31, 41, 51, 75], 31) := by decide +kernel
theorem dX5_mayBe_32 : decode cX5_mayBe 32 = .ok (.iload_n 3, 1) := by decide +kernel
theorem dX5_mayBe_33 : decode cX5_mayBe 33 = .ok (.i2l, 1) := by decide +kernel
theorem dX5_mayBe_34 : decode cX5_mayBe 34 = .ok (.lconst 1, 1) := by decide +kernel
theorem dX5_mayBe_35 : decode cX5_mayBe 35 = .ok (.ldc2_w 70, 3) := by decide +kernel
theorem dX5_mayBe_38 : decode cX5_mayBe 38 = .ok (.invokestatic 50, 3) := by decide +kernel
theorem dX5_mayBe_41 : decode cX5_mayBe 41 = .ok (.ireturn, 1) := by decide +kernel
theorem dX5_mayBe_42 : decode cX5_mayBe 42 = .ok (.iload_n 3, 1) := by decide +kernel
theorem dX5_mayBe_43 : decode cX5_mayBe 43 = .ok (.i2l, 1) := by decide +kernel
theorem dX5_mayBe_44 : decode cX5_mayBe 44 = .ok (.lconst 0, 1) := by decide +kernel
theorem dX5_mayBe_45 : decode cX5_mayBe 45 = .ok (.ldc2_w 72, 3) := by decide +kernel
theorem dX5_mayBe_48 : decode cX5_mayBe 48 = .ok (.invokestatic 50, 3) := by decide +kernel
theorem dX5_mayBe_51 : decode cX5_mayBe 51 = .ok (.ireturn, 1) := by decide +kernel
theorem dX5_mayBe_52 : decode cX5_mayBe 52 = .ok (.iload_n 3, 1) := by decide +kernel
theorem dX5_mayBe_53 : decode cX5_mayBe 53 = .ok (.iconst (-1), 1) := by decide +kernel
theorem dX5_mayBe_54 : decode cX5_mayBe 54 = .ok (.if_icmp .eq 16, 3) := by decide +kernel
theorem dX5_mayBe_57 : decode cX5_mayBe 57 = .ok (.aload_n 0, 1) := by decide +kernel
theorem dX5_mayBe_58 : decode cX5_mayBe 58 = .ok (.iload_n 3, 1) := by decide +kernel
theorem dX5_mayBe_59 : decode cX5_mayBe 59 = .ok (.invokevirtual 86, 3) := by decide +kernel
theorem dX5_mayBe_62 : decode cX5_mayBe 62 = .ok (.ifCond .eq 12, 3) := by decide +kernel
theorem dX5_mayBe_65 : decode cX5_mayBe 65 = .ok (.iload_n 3, 1) := by decide +kernel
theorem dX5_mayBe_66 : decode cX5_mayBe 66 = .ok (.iload_n 1, 1) := by decide +kernel
theorem dX5_mayBe_67 : decode cX5_mayBe 67 = .ok (.if_icmp .eq 7, 3) := by decide +kernel
theorem dX5_mayBe_70 : decode cX5_mayBe 70 = .ok (.iconst 1, 1) := by decide +kernel
theorem dX5_mayBe_71 : decode cX5_mayBe 71 = .ok (.goto 4, 3) := by decide +kernel
theorem dX5_mayBe_74 : decode cX5_mayBe 74 = .ok (.iconst 0, 1) := by decide +kernel
theorem dX5_mayBe_75 : decode cX5_mayBe 75 = .ok (.ireturn, 1) := by decide +kernel
theorem dX5_mayBe_76 : decode cX5_mayBe 76 = .ok (.iload_n 3, 1) := by decide +kernel
theorem dX5_mayBe_77 : decode cX5_mayBe 77 = .ok (.i2l, 1) := by decide +kernel
theorem dX5_mayBe_78 : decode cX5_mayBe 78 = .ok (.lconst 0, 1) := by decide +kernel
theorem dX5_mayBe_79 : decode cX5_mayBe 79 = .ok (.aload_n 0, 1) := by decide +kernel
theorem dX5_mayBe_80 : decode cX5_mayBe 80 = .ok (.getfield 7, 3) := by decide +kernel
theorem dX5_mayBe_83 : decode cX5_mayBe 83 = .ok (.iconst 1, 1) := by decide +kernel
theorem dX5_mayBe_84 : decode cX5_mayBe 84 = .ok (.iaload, 1) := by decide +kernel
theorem dX5_mayBe_85 : decode cX5_mayBe 85 = .ok (.iconst 1, 1) := by decide +kernel
theorem dX5_mayBe_86 : decode cX5_mayBe 86 = .ok (.isub, 1) := by decide +kernel
theorem dX5_mayBe_87 : decode cX5_mayBe 87 = .ok (.i2l, 1) := by decide +kernel
theorem dX5_mayBe_88 : decode cX5_mayBe 88 = .ok (.invokestatic 50, 3) := by decide +kernel
theorem dX5_mayBe_91 : decode cX5_mayBe 91 = .ok (.ireturn, 1) := by decide +kernel
theorem dX5_mayBe_92 : decode cX5_mayBe 92 = .ok (.iconst 0, 1) := by decide +kernel
theorem dX5_mayBe_93 : decode cX5_mayBe 93 = .ok (.ireturn, 1) := by decide +kernel
set_option maxRecDepth 20000 in
theorem ggX5_set_X5_isRunner : GoodIn wsX5_set wsX5_isRunner := goodIn_r _ [6, 7, 26, 27, 28, 29, 30, 31, 32, 33, 34, 35, 36, 37, 38, 39, 40] rfl (by decide +kernel)
set_option maxRecDepth 20000 in
theorem gX5_set_X5_isRunner : GoodIn wsX5_set (wsV RX5 86 RX5 yX5_isRunner wsX5_isRunner) := goodIn_app (goodIn_of _ (by decide +kernel)) ggX5_set_X5_isRunner
set_option maxRecDepth 20000 in
theorem ggX5_set_X5_mayBe : GoodIn wsX5_set wsX5_mayBe := goodIn_r _ [11, 12, 13, 7, 14, 15, 5, 16, 2, 3, 4, 6, 26, 27, 28, 29, 30, 31, 32, 33, 34, 35, 36, 37, 38, 39, 40] rfl (by decide +kernel)
set_option maxRecDepth 20000 in
theorem gX5_set_X5_mayBe : GoodIn wsX5_set (wsV RX5 94 RX5 yX5_mayBe wsX5_mayBe) := goodIn_app (goodIn_of _ (by decide +kernel)) ggX5_set_X5_mayBe
set_option maxRecDepth 20000 in
theorem ggX5_set_X5_becomes : GoodIn wsX5_set wsX5_becomes := goodIn_r _ [20, 7, 26, 27, 28, 29, 30, 31, 32, 33, 34, 35, 36, 37, 38, 39, 40] rfl (by decide +kernel)
set_option maxRecDepth 20000 in
theorem gX5_set_X5_becomes : GoodIn wsX5_set (wsV RX5 61 RX5 yX5_becomes wsX5_becomes) := goodIn_app (goodIn_of _ (by decide +kernel)) ggX5_set_X5_becomes
set_option maxRecDepth 20000 in
theorem ggX5_set_X5_finds : GoodIn wsX5_set wsX5_finds := goodIn_r _ [24, 25, 1, 26, 27, 28, 29, 30, 31, 32, 33, 34, 35, 36, 37, 38, 39, 40] rfl (by decide +kernel)
set_option maxRecDepth 20000 in
theorem gX5_set_X5_finds : GoodIn wsX5_set (wsV RX5 40 RX5 yX5_finds wsX5_finds) := goodIn_app (goodIn_of _ (by decide +kernel)) ggX5_set_X5_finds
theorem dX5_set_0 : decode cX5_set 0 = .ok (.aload_n 0, 1) := by decide +kernel
theorem dX5_set_1 : decode cX5_set 1 = .ok (.iload_n 1, 1) := by decide +kernel
theorem dX5_set_2 : decode cX5_set 2 = .ok (.invokevirtual 86, 3) := by decide +kernel
theorem dX5_set_5 : decode cX5_set 5 = .ok (.ifCond .eq 29, 3) := by decide +kernel
theorem dX5_set_8 : decode cX5_set 8 = .ok (.aload_n 0, 1) := by decide +kernel
theorem dX5_set_9 : decode cX5_set 9 = .ok (.iload_n 1, 1) := by decide +kernel
theorem dX5_set_10 : decode cX5_set 10 = .ok (.iload_n 2, 1) := by decide +kernel
theorem dX5_set_11 : decode cX5_set 11 = .ok (.iload_n 3, 1) := by decide +kernel
theorem dX5_set_12 : decode cX5_set 12 = .ok (.invokevirtual 94, 3) := by decide +kernel
theorem dX5_set_15 : decode cX5_set 15 = .ok (.ifCond .eq 19, 3) := by decide +kernel
theorem dX5_set_18 : decode cX5_set 18 = .ok (.aload_n 0, 1) := by decide +kernel
theorem dX5_set_19 : decode cX5_set 19 = .ok (.iconst 5, 1) := by decide +kernel
theorem dX5_set_20 : decode cX5_set 20 = .ok (.bipush 8, 2) := by decide +kernel
theorem dX5_set_22 : decode cX5_set 22 = .ok (.iload_n 1, 1) := by decide +kernel
theorem dX5_set_23 : decode cX5_set 23 = .ok (.imul, 1) := by decide +kernel
theorem dX5_set_24 : decode cX5_set 24 = .ok (.iadd, 1) := by decide +kernel
theorem dX5_set_25 : decode cX5_set 25 = .ok (.iload_n 2, 1) := by decide +kernel
theorem dX5_set_26 : decode cX5_set 26 = .ok (.iadd, 1) := by decide +kernel
theorem dX5_set_27 : decode cX5_set 27 = .ok (.iload_n 3, 1) := by decide +kernel
theorem dX5_set_28 : decode cX5_set 28 = .ok (.invokevirtual 61, 3) := by decide +kernel
theorem dX5_set_31 : decode cX5_set 31 = .ok (.goto 9, 3) := by decide +kernel
theorem dX5_set_34 : decode cX5_set 34 = .ok (.aload_n 0, 1) := by decide +kernel
theorem dX5_set_35 : decode cX5_set 35 = .ok (.ldc 38, 2) := by decide +kernel
theorem dX5_set_37 : decode cX5_set 37 = .ok (.invokevirtual 40, 3) := by decide +kernel
theorem dX5_set_40 : decode cX5_set 40 = .ok (.ireturn, 1) := by decide +kernel
set_option maxRecDepth 20000 in
theorem ggX5_turn_X5_isRunner : GoodIn wsX5_turn wsX5_isRunner := goodIn_r _ [7, 8, 21, 22, 23, 24, 25, 26, 27, 28, 29, 30, 31, 32, 33, 34, 35] rfl (by decide +kernel)
set_option maxRecDepth 20000 in
theorem gX5_turn_X5_isRunner : GoodIn wsX5_turn (wsV RX5 86 RX5 yX5_isRunner wsX5_isRunner) := goodIn_app (goodIn_of _ (by decide +kernel)) ggX5_turn_X5_isRunner
set_option maxRecDepth 20000 in
theorem ggX5_turn_X5_isIn : GoodIn wsX5_turn wsX5_isIn := goodIn_r _ [11] rfl (by decide +kernel)
set_option maxRecDepth 20000 in
theorem gX5_turn_X5_isIn : GoodIn wsX5_turn (va_wsS RX5 50 yX5_isIn wsX5_isIn) := goodIn_app (goodIn_of _ (by decide +kernel)) ggX5_turn_X5_isIn
set_option maxRecDepth 20000 in
theorem ggX5_turn_X5_becomes : GoodIn wsX5_turn wsX5_becomes := goodIn_r _ [15, 8, 21, 22, 23, 24, 25, 26, 27, 28, 29, 30, 31, 32, 33, 34, 35] rfl (by decide +kernel)
set_option maxRecDepth 20000 in
theorem gX5_turn_X5_becomes : GoodIn wsX5_turn (wsV RX5 61 RX5 yX5_becomes wsX5_becomes) := goodIn_app (goodIn_of _ (by decide +kernel)) ggX5_turn_X5_becomes
set_option maxRecDepth 20000 in
theorem ggX5_turn_X5_finds : GoodIn wsX5_turn wsX5_finds := goodIn_r _ [19, 20, 2, 21, 22, 23, 24, 25, 26, 27, 28, 29, 30, 31, 32, 33, 34, 35] rfl (by decide +kernel)
set_option maxRecDepth 20000 in
theorem gX5_turn_X5_finds : GoodIn wsX5_turn (wsV RX5 40 RX5 yX5_finds wsX5_finds) := goodIn_app (goodIn_of _ (by decide +kernel)) ggX5_turn_X5_finds
theorem dX5_turn_0 : decode cX5_turn 0 = .ok (.aload_n 0, 1) := by decide +kernel
theorem dX5_turn_1 : decode cX5_turn 1 = .ok (.iload_n 1, 1) := by decide +kernel
theorem dX5_turn_2 : decode cX5_turn 2 = .ok (.invokevirtual 86, 3) := by decide +kernel
theorem dX5_turn_5 : decode cX5_turn 5 = .ok (.ifCond .eq 29, 3) := by decide +kernel
theorem dX5_turn_8 : decode cX5_turn 8 = .ok (.iload_n 2, 1) := by decide +kernel
theorem dX5_turn_9 : decode cX5_turn 9 = .ok (.i2l, 1) := by decide +kernel
theorem dX5_turn_10 : decode cX5_turn 10 = .ok (.lconst 0, 1) := by decide +kernel
theorem dX5_turn_11 : decode cX5_turn 11 = .ok (.ldc2_w 68, 3) := by decide +kernel
theorem dX5_turn_14 : decode cX5_turn 14 = .ok (.invokestatic 50, 3) := by decide +kernel
theorem dX5_turn_17 : decode cX5_turn 17 = .ok (.ifCond .eq 17, 3) := by decide +kernel
theorem dX5_turn_20 : decode cX5_turn 20 = .ok (.aload_n 0, 1) := by decide +kernel
theorem dX5_turn_21 : decode cX5_turn 21 = .ok (.iconst 5, 1) := by decide +kernel
theorem dX5_turn_22 : decode cX5_turn 22 = .ok (.bipush 8, 2) := by decide +kernel
theorem dX5_turn_24 : decode cX5_turn 24 = .ok (.iload_n 1, 1) := by decide +kernel
theorem dX5_turn_25 : decode cX5_turn 25 = .ok (.imul, 1) := by decide +kernel
theorem dX5_turn_26 : decode cX5_turn 26 = .ok (.iadd, 1) := by decide +kernel
theorem dX5_turn_27 : decode cX5_turn 27 = .ok (.iload_n 2, 1) := by decide +kernel
theorem dX5_turn_28 : decode cX5_turn 28 = .ok (.invokevirtual 61, 3) := by decide +kernel
theorem dX5_turn_31 : decode cX5_turn 31 = .ok (.goto 9, 3) := by decide +kernel
theorem dX5_turn_34 : decode cX5_turn 34 = .ok (.aload_n 0, 1) := by decide +kernel
theorem dX5_turn_35 : decode cX5_turn 35 = .ok (.ldc 38, 2) := by decide +kernel
theorem dX5_turn_37 : decode cX5_turn 37 = .ok (.invokevirtual 40, 3) := by decide +kernel
theorem dX5_turn_40 : decode cX5_turn 40 = .ok (.ireturn, 1) := by decide +kernel
theorem dX5_isUnder_0 : decode cX5_isUnder 0 = .ok (.iload_n 0, 1) := by decide +kernel
theorem dX5_isUnder_1 : decode cX5_isUnder 1 = .ok (.iload_n 1, 1) := by decide +kernel
theorem dX5_isUnder_2 : decode cX5_isUnder 2 = .ok (.if_icmp .eq 27, 3) := by decide +kernel
theorem dX5_isUnder_5 : decode cX5_isUnder 5 = .ok (.iload_n 1, 1) := by decide +kernel
theorem dX5_isUnder_6 : decode cX5_isUnder 6 = .ok (.ifCond .eq 23, 3) := by decide +kernel
theorem dX5_isUnder_9 : decode cX5_isUnder 9 = .ok (.iload_n 1, 1) := by decide +kernel
theorem dX5_isUnder_10 : decode cX5_isUnder 10 = .ok (.iconst 1, 1) := by decide +kernel
theorem dX5_isUnder_11 : decode cX5_isUnder 11 = .ok (.if_icmp .ne 8, 3) := by decide +kernel
theorem dX5_isUnder_14 : decode cX5_isUnder 14 = .ok (.iload_n 0, 1) := by decide +kernel
theorem dX5_isUnder_15 : decode cX5_isUnder 15 = .ok (.iconst 3, 1) := by decide +kernel
theorem dX5_isUnder_16 : decode cX5_isUnder 16 = .ok (.if_icmp .gt 13, 3) := by decide +kernel
theorem dX5_isUnder_19 : decode cX5_isUnder 19 = .ok (.iload_n 1, 1) := by decide +kernel
theorem dX5_isUnder_20 : decode cX5_isUnder 20 = .ok (.iconst 2, 1) := by decide +kernel
theorem dX5_isUnder_21 : decode cX5_isUnder 21 = .ok (.if_icmp .ne 12, 3) := by decide +kernel
theorem dX5_isUnder_24 : decode cX5_isUnder 24 = .ok (.iload_n 0, 1) := by decide +kernel
theorem dX5_isUnder_25 : decode cX5_isUnder 25 = .ok (.iconst 3, 1) := by decide +kernel
theorem dX5_isUnder_26 : decode cX5_isUnder 26 = .ok (.if_icmp .ne 7, 3) := by decide +kernel
theorem dX5_isUnder_29 : decode cX5_isUnder 29 = .ok (.iconst 1, 1) := by decide +kernel
theorem dX5_isUnder_30 : decode cX5_isUnder 30 = .ok (.goto 4, 3) := by decide +kernel
theorem dX5_isUnder_33 : decode cX5_isUnder 33 = .ok (.iconst 0, 1) := by decide +kernel
theorem dX5_isUnder_34 : decode cX5_isUnder 34 = .ok (.ireturn, 1) := by decide +kernel
set_option maxRecDepth 20000 in
theorem ggX5_as_X5_isRunner : GoodIn wsX5_as wsX5_isRunner := goodIn_r _ [8, 9, 25, 26, 27, 28, 29, 30, 31, 32, 33, 34, 35, 36, 37, 38, 39] rfl (by decide +kernel)
set_option maxRecDepth 20000 in
theorem gX5_as_X5_isRunner : GoodIn wsX5_as (wsV RX5 86 RX5 yX5_isRunner wsX5_isRunner) := goodIn_app (goodIn_of _ (by decide +kernel)) ggX5_as_X5_isRunner
set_option maxRecDepth 20000 in
theorem ggX5_as_X5_isIn : GoodIn wsX5_as wsX5_isIn := goodIn_r _ [12] rfl (by decide +kernel)
set_option maxRecDepth 20000 in
theorem gX5_as_X5_isIn : GoodIn wsX5_as (va_wsS RX5 50 yX5_isIn wsX5_isIn) := goodIn_app (goodIn_of _ (by decide +kernel)) ggX5_as_X5_isIn
set_option maxRecDepth 20000 in
theorem ggX5_as_X5_finds : GoodIn wsX5_as wsX5_finds := goodIn_r _ [16, 17, 2, 25, 26, 27, 28, 29, 30, 31, 32, 33, 34, 35, 36, 37, 38, 39] rfl (by decide +kernel)
set_option maxRecDepth 20000 in
theorem gX5_as_X5_finds : GoodIn wsX5_as (wsV RX5 40 RX5 yX5_finds wsX5_finds) := goodIn_app (goodIn_of _ (by decide +kernel)) ggX5_as_X5_finds
set_option maxRecDepth 20000 in
theorem ggX5_as_X5_is : GoodIn wsX5_as wsX5_is := goodIn_r _ [21, 9, 25, 26, 27, 28, 29, 30, 31, 32, 33, 34, 35, 36, 37, 38, 39] rfl (by decide +kernel)
set_option maxRecDepth 20000 in
theorem gX5_as_X5_is : GoodIn wsX5_as (wsV RX5 44 RX5 yX5_is wsX5_is) := goodIn_app (goodIn_of _ (by decide +kernel)) ggX5_as_X5_is
set_option maxRecDepth 20000 in
theorem ggX5_as_X5_isUnder : GoodIn wsX5_as wsX5_isUnder := goodIn_r _ [24] rfl (by decide +kernel)
set_option maxRecDepth 20000 in
theorem gX5_as_X5_isUnder : GoodIn wsX5_as (va_wsS RX5 98 yX5_isUnder wsX5_isUnder) := goodIn_app (goodIn_of _ (by decide +kernel)) ggX5_as_X5_isUnder
theorem dX5_as_0 : decode cX5_as 0 = .ok (.aload_n 0, 1) := by decide +kernel
theorem dX5_as_1 : decode cX5_as 1 = .ok (.iload_n 1, 1) := by decide +kernel
theorem dX5_as_2 : decode cX5_as 2 = .ok (.invokevirtual 86, 3) := by decide +kernel
theorem dX5_as_5 : decode cX5_as 5 = .ok (.ifCond .eq 15, 3) := by decide +kernel
theorem dX5_as_8 : decode cX5_as 8 = .ok (.iload_n 2, 1) := by decide +kernel
theorem dX5_as_9 : decode cX5_as 9 = .ok (.i2l, 1) := by decide +kernel
theorem dX5_as_10 : decode cX5_as 10 = .ok (.lconst 0, 1) := by decide +kernel
theorem dX5_as_11 : decode cX5_as 11 = .ok (.ldc2_w 68, 3) := by decide +kernel
theorem dX5_as_14 : decode cX5_as 14 = .ok (.invokestatic 50, 3) := by decide +kernel
theorem dX5_as_17 : decode cX5_as 17 = .ok (.ifCond .ne 10, 3) := by decide +kernel
theorem dX5_as_20 : decode cX5_as 20 = .ok (.aload_n 0, 1) := by decide +kernel
theorem dX5_as_21 : decode cX5_as 21 = .ok (.ldc 38, 2) := by decide +kernel
theorem dX5_as_23 : decode cX5_as 23 = .ok (.invokevirtual 40, 3) := by decide +kernel
theorem dX5_as_26 : decode cX5_as 26 = .ok (.ireturn, 1) := by decide +kernel
theorem dX5_as_27 : decode cX5_as 27 = .ok (.aload_n 0, 1) := by decide +kernel
theorem dX5_as_28 : decode cX5_as 28 = .ok (.iload_n 1, 1) := by decide +kernel
theorem dX5_as_29 : decode cX5_as 29 = .ok (.iconst 0, 1) := by decide +kernel
theorem dX5_as_30 : decode cX5_as 30 = .ok (.invokevirtual 44, 3) := by decide +kernel
theorem dX5_as_33 : decode cX5_as 33 = .ok (.iload_n 2, 1) := by decide +kernel
theorem dX5_as_34 : decode cX5_as 34 = .ok (.invokestatic 98, 3) := by decide +kernel
theorem dX5_as_37 : decode cX5_as 37 = .ok (.ifCond .eq 12, 3) := by decide +kernel
theorem dX5_as_40 : decode cX5_as 40 = .ok (.aload_n 0, 1) := by decide +kernel
theorem dX5_as_41 : decode cX5_as 41 = .ok (.iload_n 1, 1) := by decide +kernel
theorem dX5_as_42 : decode cX5_as 42 = .ok (.iconst 1, 1) := by decide +kernel
theorem dX5_as_43 : decode cX5_as 43 = .ok (.invokevirtual 44, 3) := by decide +kernel
theorem dX5_as_46 : decode cX5_as 46 = .ok (.goto 9, 3) := by decide +kernel
theorem dX5_as_49 : decode cX5_as 49 = .ok (.aload_n 0, 1) := by decide +kernel
theorem dX5_as_50 : decode cX5_as 50 = .ok (.ldc 101, 2) := by decide +kernel
theorem dX5_as_52 : decode cX5_as 52 = .ok (.invokevirtual 40, 3) := by decide +kernel
theorem dX5_as_55 : decode cX5_as 55 = .ok (.ireturn, 1) := by decide +kernel
set_option maxRecDepth 20000 in
theorem ggX5_firstAlone_X5_isHome : GoodIn wsX5_firstAlone wsX5_isHome := goodIn_r _ [6, 7, 8, 9, 5, 10, 1, 11, 12, 13, 14, 15, 16, 17, 18, 19, 20, 21, 22, 23, 24, 25] rfl (by decide +kernel)
set_option maxRecDepth 20000 in
theorem gX5_firstAlone_X5_isHome : GoodIn wsX5_firstAlone (wsV RX5 78 RX5 yX5_isHome wsX5_isHome) := goodIn_app (goodIn_of _ (by decide +kernel)) ggX5_firstAlone_X5_isHome
set_option maxRecDepth 20000 in
theorem ggX5_firstAlone_X5_is : GoodIn wsX5_firstAlone wsX5_is := goodIn_r _ [10, 1, 11, 12, 13, 14, 15, 16, 17, 18, 19, 20, 21, 22, 23, 24, 25] rfl (by decide +kernel)
set_option maxRecDepth 20000 in
theorem gX5_firstAlone_X5_is : GoodIn wsX5_firstAlone (wsV RX5 44 RX5 yX5_is wsX5_is) := goodIn_app (goodIn_of _ (by decide +kernel)) ggX5_firstAlone_X5_is
theorem dX5_firstAlone_0 : decode cX5_firstAlone 0 = .ok (.iconst (-1), 1) := by decide +kernel
theorem dX5_firstAlone_1 : decode cX5_firstAlone 1 = .ok (.istore_n 1, 1) := by decide +kernel
theorem dX5_firstAlone_2 : decode cX5_firstAlone 2 = .ok (.iconst 0, 1) := by decide +kernel
theorem dX5_firstAlone_3 : decode cX5_firstAlone 3 = .ok (.istore_n 2, 1) := by decide +kernel
theorem dX5_firstAlone_4 : decode cX5_firstAlone 4 = .ok (.iconst 0, 1) := by decide +kernel
theorem dX5_firstAlone_5 : decode cX5_firstAlone 5 = .ok (.istore_n 3, 1) := by decide +kernel
theorem dX5_firstAlone_6 : decode cX5_firstAlone 6 = .ok (.iload_n 3, 1) := by decide +kernel
theorem dX5_firstAlone_7 : decode cX5_firstAlone 7 = .ok (.aload_n 0, 1) := by decide +kernel
theorem dX5_firstAlone_8 : decode cX5_firstAlone 8 = .ok (.getfield 7, 3) := by decide +kernel
theorem dX5_firstAlone_11 : decode cX5_firstAlone 11 = .ok (.iconst 0, 1) := by decide +kernel
theorem dX5_firstAlone_12 : decode cX5_firstAlone 12 = .ok (.iaload, 1) := by decide +kernel
theorem dX5_firstAlone_13 : decode cX5_firstAlone 13 = .ok (.if_icmp .ge 63, 3) := by decide +kernel
theorem dX5_firstAlone_16 : decode cX5_firstAlone 16 = .ok (.aload_n 0, 1) := by decide +kernel
theorem dX5_firstAlone_17 : decode cX5_firstAlone 17 = .ok (.iload_n 3, 1) := by decide +kernel
theorem dX5_firstAlone_18 : decode cX5_firstAlone 18 = .ok (.invokevirtual 78, 3) := by decide +kernel
theorem dX5_firstAlone_21 : decode cX5_firstAlone 21 = .ok (.ifCond .eq 6, 3) := by decide +kernel
theorem dX5_firstAlone_24 : decode cX5_firstAlone 24 = .ok (.goto 46, 3) := by decide +kernel
theorem dX5_firstAlone_27 : decode cX5_firstAlone 27 = .ok (.iload_n 1, 1) := by decide +kernel
theorem dX5_firstAlone_28 : decode cX5_firstAlone 28 = .ok (.ifCond .lt 18, 3) := by decide +kernel
theorem dX5_firstAlone_31 : decode cX5_firstAlone 31 = .ok (.aload_n 0, 1) := by decide +kernel
theorem dX5_firstAlone_32 : decode cX5_firstAlone 32 = .ok (.iload_n 3, 1) := by decide +kernel
theorem dX5_firstAlone_33 : decode cX5_firstAlone 33 = .ok (.iconst 5, 1) := by decide +kernel
theorem dX5_firstAlone_34 : decode cX5_firstAlone 34 = .ok (.invokevirtual 44, 3) := by decide +kernel
theorem dX5_firstAlone_37 : decode cX5_firstAlone 37 = .ok (.aload_n 0, 1) := by decide +kernel
theorem dX5_firstAlone_38 : decode cX5_firstAlone 38 = .ok (.iload_n 1, 1) := by decide +kernel
theorem dX5_firstAlone_39 : decode cX5_firstAlone 39 = .ok (.iconst 5, 1) := by decide +kernel
theorem dX5_firstAlone_40 : decode cX5_firstAlone 40 = .ok (.invokevirtual 44, 3) := by decide +kernel
theorem dX5_firstAlone_43 : decode cX5_firstAlone 43 = .ok (.if_icmp .le 10, 3) := by decide +kernel
theorem dX5_firstAlone_46 : decode cX5_firstAlone 46 = .ok (.iload_n 3, 1) := by decide +kernel
theorem dX5_firstAlone_47 : decode cX5_firstAlone 47 = .ok (.istore_n 1, 1) := by decide +kernel
theorem dX5_firstAlone_48 : decode cX5_firstAlone 48 = .ok (.iconst 1, 1) := by decide +kernel
theorem dX5_firstAlone_49 : decode cX5_firstAlone 49 = .ok (.istore_n 2, 1) := by decide +kernel
theorem dX5_firstAlone_50 : decode cX5_firstAlone 50 = .ok (.goto 20, 3) := by decide +kernel
theorem dX5_firstAlone_53 : decode cX5_firstAlone 53 = .ok (.aload_n 0, 1) := by decide +kernel
theorem dX5_firstAlone_54 : decode cX5_firstAlone 54 = .ok (.iload_n 3, 1) := by decide +kernel
theorem dX5_firstAlone_55 : decode cX5_firstAlone 55 = .ok (.iconst 5, 1) := by decide +kernel
theorem dX5_firstAlone_56 : decode cX5_firstAlone 56 = .ok (.invokevirtual 44, 3) := by decide +kernel
theorem dX5_firstAlone_59 : decode cX5_firstAlone 59 = .ok (.aload_n 0, 1) := by decide +kernel
theorem dX5_firstAlone_60 : decode cX5_firstAlone 60 = .ok (.iload_n 1, 1) := by decide +kernel
theorem dX5_firstAlone_61 : decode cX5_firstAlone 61 = .ok (.iconst 5, 1) := by decide +kernel
theorem dX5_firstAlone_62 : decode cX5_firstAlone 62 = .ok (.invokevirtual 44, 3) := by decide +kernel
theorem dX5_firstAlone_65 : decode cX5_firstAlone 65 = .ok (.if_icmp .ne 5, 3) := by decide +kernel
theorem dX5_firstAlone_68 : decode cX5_firstAlone 68 = .ok (.iconst 0, 1) := by decide +kernel
theorem dX5_firstAlone_69 : decode cX5_firstAlone 69 = .ok (.istore_n 2, 1) := by decide +kernel
theorem dX5_firstAlone_70 : decode cX5_firstAlone 70 = .ok (.iinc 3 1, 3) := by decide +kernel
theorem dX5_firstAlone_73 : decode cX5_firstAlone 73 = .ok (.goto (-67), 3) := by decide +kernel
theorem dX5_firstAlone_76 : decode cX5_firstAlone 76 = .ok (.iload_n 2, 1) := by decide +kernel
theorem dX5_firstAlone_77 : decode cX5_firstAlone 77 = .ok (.ifCond .eq 7, 3) := by decide +kernel
theorem dX5_firstAlone_80 : decode cX5_firstAlone 80 = .ok (.iload_n 1, 1) := by decide +kernel
theorem dX5_firstAlone_81 : decode cX5_firstAlone 81 = .ok (.goto 4, 3) := by decide +kernel
theorem dX5_firstAlone_84 : decode cX5_firstAlone 84 = .ok (.iconst (-1), 1) := by decide +kernel
theorem dX5_firstAlone_85 : decode cX5_firstAlone 85 = .ok (.ireturn, 1) := by decide +kernel
set_option maxRecDepth 20000 in
theorem ggX5_homeMany_X5_isHome : GoodIn wsX5_homeMany wsX5_isHome := goodIn_r _ [6, 7, 8, 9, 5, 10, 1, 11, 12, 13, 14, 15, 16, 17, 18, 19, 20, 21, 22, 23, 24, 25] rfl (by decide +kernel)
set_option maxRecDepth 20000 in
theorem gX5_homeMany_X5_isHome : GoodIn wsX5_homeMany (wsV RX5 78 RX5 yX5_isHome wsX5_isHome) := goodIn_app (goodIn_of _ (by decide +kernel)) ggX5_homeMany_X5_isHome
theorem dX5_homeMany_0 : decode cX5_homeMany 0 = .ok (.iconst 0, 1) := by decide +kernel
theorem dX5_homeMany_1 : decode cX5_homeMany 1 = .ok (.istore_n 1, 1) := by decide +kernel
theorem dX5_homeMany_2 : decode cX5_homeMany 2 = .ok (.iconst 0, 1) := by decide +kernel
theorem dX5_homeMany_3 : decode cX5_homeMany 3 = .ok (.istore_n 2, 1) := by decide +kernel
theorem dX5_homeMany_4 : decode cX5_homeMany 4 = .ok (.iload_n 2, 1) := by decide +kernel
theorem dX5_homeMany_5 : decode cX5_homeMany 5 = .ok (.aload_n 0, 1) := by decide +kernel
theorem dX5_homeMany_6 : decode cX5_homeMany 6 = .ok (.getfield 7, 3) := by decide +kernel
theorem dX5_homeMany_9 : decode cX5_homeMany 9 = .ok (.iconst 0, 1) := by decide +kernel
theorem dX5_homeMany_10 : decode cX5_homeMany 10 = .ok (.iaload, 1) := by decide +kernel
theorem dX5_homeMany_11 : decode cX5_homeMany 11 = .ok (.if_icmp .ge 25, 3) := by decide +kernel
theorem dX5_homeMany_14 : decode cX5_homeMany 14 = .ok (.iload_n 1, 1) := by decide +kernel
theorem dX5_homeMany_15 : decode cX5_homeMany 15 = .ok (.aload_n 0, 1) := by decide +kernel
theorem dX5_homeMany_16 : decode cX5_homeMany 16 = .ok (.iload_n 2, 1) := by decide +kernel
theorem dX5_homeMany_17 : decode cX5_homeMany 17 = .ok (.invokevirtual 78, 3) := by decide +kernel
theorem dX5_homeMany_20 : decode cX5_homeMany 20 = .ok (.ifCond .eq 7, 3) := by decide +kernel
theorem dX5_homeMany_23 : decode cX5_homeMany 23 = .ok (.iconst 1, 1) := by decide +kernel
theorem dX5_homeMany_24 : decode cX5_homeMany 24 = .ok (.goto 4, 3) := by decide +kernel
theorem dX5_homeMany_27 : decode cX5_homeMany 27 = .ok (.iconst 0, 1) := by decide +kernel
theorem dX5_homeMany_28 : decode cX5_homeMany 28 = .ok (.iadd, 1) := by decide +kernel
theorem dX5_homeMany_29 : decode cX5_homeMany 29 = .ok (.istore_n 1, 1) := by decide +kernel
theorem dX5_homeMany_30 : decode cX5_homeMany 30 = .ok (.iinc 2 1, 3) := by decide +kernel
theorem dX5_homeMany_33 : decode cX5_homeMany 33 = .ok (.goto (-29), 3) := by decide +kernel
theorem dX5_homeMany_36 : decode cX5_homeMany 36 = .ok (.iload_n 1, 1) := by decide +kernel
theorem dX5_homeMany_37 : decode cX5_homeMany 37 = .ok (.ireturn, 1) := by decide +kernel
set_option maxRecDepth 20000 in
theorem ggX5_asHolder_X5_is : GoodIn wsX5_asHolder wsX5_is := goodIn_r _ [6, 1, 7, 8, 9, 10, 11, 12, 13, 14, 15, 16, 17, 18, 19, 20, 21] rfl (by decide +kernel)
set_option maxRecDepth 20000 in
theorem gX5_asHolder_X5_is : GoodIn wsX5_asHolder (wsV RX5 44 RX5 yX5_is wsX5_is) := goodIn_app (goodIn_of _ (by decide +kernel)) ggX5_asHolder_X5_is
theorem dX5_asHolder_0 : decode cX5_asHolder 0 = .ok (.iload_n 1, 1) := by decide +kernel
theorem dX5_asHolder_1 : decode cX5_asHolder 1 = .ok (.iload_n 2, 1) := by decide +kernel
theorem dX5_asHolder_2 : decode cX5_asHolder 2 = .ok (.if_icmp .ne 31, 3) := by decide +kernel
theorem dX5_asHolder_5 : decode cX5_asHolder 5 = .ok (.iconst 4, 1) := by decide +kernel
theorem dX5_asHolder_6 : decode cX5_asHolder 6 = .ok (.aload_n 0, 1) := by decide +kernel
theorem dX5_asHolder_7 : decode cX5_asHolder 7 = .ok (.iload_n 1, 1) := by decide +kernel
theorem dX5_asHolder_8 : decode cX5_asHolder 8 = .ok (.iconst 5, 1) := by decide +kernel
theorem dX5_asHolder_9 : decode cX5_asHolder 9 = .ok (.invokevirtual 44, 3) := by decide +kernel
theorem dX5_asHolder_12 : decode cX5_asHolder 12 = .ok (.imul, 1) := by decide +kernel
theorem dX5_asHolder_13 : decode cX5_asHolder 13 = .ok (.iconst 3, 1) := by decide +kernel
theorem dX5_asHolder_14 : decode cX5_asHolder 14 = .ok (.aload_n 0, 1) := by decide +kernel
theorem dX5_asHolder_15 : decode cX5_asHolder 15 = .ok (.getfield 7, 3) := by decide +kernel
theorem dX5_asHolder_18 : decode cX5_asHolder 18 = .ok (.iconst 1, 1) := by decide +kernel
theorem dX5_asHolder_19 : decode cX5_asHolder 19 = .ok (.iaload, 1) := by decide +kernel
theorem dX5_asHolder_20 : decode cX5_asHolder 20 = .ok (.imul, 1) := by decide +kernel
theorem dX5_asHolder_21 : decode cX5_asHolder 21 = .ok (.if_icmp .lt 12, 3) := by decide +kernel
theorem dX5_asHolder_24 : decode cX5_asHolder 24 = .ok (.aload_n 0, 1) := by decide +kernel
theorem dX5_asHolder_25 : decode cX5_asHolder 25 = .ok (.getfield 7, 3) := by decide +kernel
theorem dX5_asHolder_28 : decode cX5_asHolder 28 = .ok (.iconst 2, 1) := by decide +kernel
theorem dX5_asHolder_29 : decode cX5_asHolder 29 = .ok (.iaload, 1) := by decide +kernel
theorem dX5_asHolder_30 : decode cX5_asHolder 30 = .ok (.goto 9, 3) := by decide +kernel
theorem dX5_asHolder_33 : decode cX5_asHolder 33 = .ok (.aload_n 0, 1) := by decide +kernel
theorem dX5_asHolder_34 : decode cX5_asHolder 34 = .ok (.iload_n 1, 1) := by decide +kernel
theorem dX5_asHolder_35 : decode cX5_asHolder 35 = .ok (.iconst 1, 1) := by decide +kernel
theorem dX5_asHolder_36 : decode cX5_asHolder 36 = .ok (.invokevirtual 44, 3) := by decide +kernel
theorem dX5_asHolder_39 : decode cX5_asHolder 39 = .ok (.ireturn, 1) := by decide +kernel
set_option maxRecDepth 20000 in
theorem ggX5_asKeeper_X5_is : GoodIn wsX5_asKeeper wsX5_is := goodIn_r _ [5, 6, 11, 12, 13, 14, 15, 16, 17, 18, 19, 20, 21, 22, 23, 24, 25] rfl (by decide +kernel)
set_option maxRecDepth 20000 in
theorem gX5_asKeeper_X5_is : GoodIn wsX5_asKeeper (wsV RX5 44 RX5 yX5_is wsX5_is) := goodIn_app (goodIn_of _ (by decide +kernel)) ggX5_asKeeper_X5_is
set_option maxRecDepth 20000 in
theorem ggX5_asKeeper_X5_isHome : GoodIn wsX5_asKeeper wsX5_isHome := goodIn_r _ [10, 1, 2, 3, 4, 5, 6, 11, 12, 13, 14, 15, 16, 17, 18, 19, 20, 21, 22, 23, 24, 25] rfl (by decide +kernel)
set_option maxRecDepth 20000 in
theorem gX5_asKeeper_X5_isHome : GoodIn wsX5_asKeeper (wsV RX5 78 RX5 yX5_isHome wsX5_isHome) := goodIn_app (goodIn_of _ (by decide +kernel)) ggX5_asKeeper_X5_isHome
theorem dX5_asKeeper_0 : decode cX5_asKeeper 0 = .ok (.aload_n 0, 1) := by decide +kernel
theorem dX5_asKeeper_1 : decode cX5_asKeeper 1 = .ok (.iload_n 1, 1) := by decide +kernel
theorem dX5_asKeeper_2 : decode cX5_asKeeper 2 = .ok (.iconst 3, 1) := by decide +kernel
theorem dX5_asKeeper_3 : decode cX5_asKeeper 3 = .ok (.invokevirtual 44, 3) := by decide +kernel
theorem dX5_asKeeper_6 : decode cX5_asKeeper 6 = .ok (.istore_n 2, 1) := by decide +kernel
theorem dX5_asKeeper_7 : decode cX5_asKeeper 7 = .ok (.iload_n 2, 1) := by decide +kernel
theorem dX5_asKeeper_8 : decode cX5_asKeeper 8 = .ok (.ifCond .lt 11, 3) := by decide +kernel
theorem dX5_asKeeper_11 : decode cX5_asKeeper 11 = .ok (.aload_n 0, 1) := by decide +kernel
theorem dX5_asKeeper_12 : decode cX5_asKeeper 12 = .ok (.iload_n 2, 1) := by decide +kernel
theorem dX5_asKeeper_13 : decode cX5_asKeeper 13 = .ok (.invokevirtual 78, 3) := by decide +kernel
theorem dX5_asKeeper_16 : decode cX5_asKeeper 16 = .ok (.ifCond .eq 10, 3) := by decide +kernel
theorem dX5_asKeeper_19 : decode cX5_asKeeper 19 = .ok (.aload_n 0, 1) := by decide +kernel
theorem dX5_asKeeper_20 : decode cX5_asKeeper 20 = .ok (.iload_n 1, 1) := by decide +kernel
theorem dX5_asKeeper_21 : decode cX5_asKeeper 21 = .ok (.iconst 1, 1) := by decide +kernel
theorem dX5_asKeeper_22 : decode cX5_asKeeper 22 = .ok (.invokevirtual 44, 3) := by decide +kernel
theorem dX5_asKeeper_25 : decode cX5_asKeeper 25 = .ok (.ireturn, 1) := by decide +kernel
theorem dX5_asKeeper_26 : decode cX5_asKeeper 26 = .ok (.aload_n 0, 1) := by decide +kernel
theorem dX5_asKeeper_27 : decode cX5_asKeeper 27 = .ok (.iload_n 2, 1) := by decide +kernel
theorem dX5_asKeeper_28 : decode cX5_asKeeper 28 = .ok (.iconst 5, 1) := by decide +kernel
theorem dX5_asKeeper_29 : decode cX5_asKeeper 29 = .ok (.invokevirtual 44, 3) := by decide +kernel
theorem dX5_asKeeper_32 : decode cX5_asKeeper 32 = .ok (.aload_n 0, 1) := by decide +kernel
theorem dX5_asKeeper_33 : decode cX5_asKeeper 33 = .ok (.iload_n 1, 1) := by decide +kernel
theorem dX5_asKeeper_34 : decode cX5_asKeeper 34 = .ok (.iconst 5, 1) := by decide +kernel
theorem dX5_asKeeper_35 : decode cX5_asKeeper 35 = .ok (.invokevirtual 44, 3) := by decide +kernel
theorem dX5_asKeeper_38 : decode cX5_asKeeper 38 = .ok (.isub, 1) := by decide +kernel
theorem dX5_asKeeper_39 : decode cX5_asKeeper 39 = .ok (.istore_n 3, 1) := by decide +kernel
theorem dX5_asKeeper_40 : decode cX5_asKeeper 40 = .ok (.iload_n 3, 1) := by decide +kernel
theorem dX5_asKeeper_41 : decode cX5_asKeeper 41 = .ok (.aload_n 0, 1) := by decide +kernel
theorem dX5_asKeeper_42 : decode cX5_asKeeper 42 = .ok (.iload_n 1, 1) := by decide +kernel
theorem dX5_asKeeper_43 : decode cX5_asKeeper 43 = .ok (.iconst 1, 1) := by decide +kernel
theorem dX5_asKeeper_44 : decode cX5_asKeeper 44 = .ok (.invokevirtual 44, 3) := by decide +kernel
theorem dX5_asKeeper_47 : decode cX5_asKeeper 47 = .ok (.if_icmp .ge 7, 3) := by decide +kernel
theorem dX5_asKeeper_50 : decode cX5_asKeeper 50 = .ok (.iload_n 3, 1) := by decide +kernel
theorem dX5_asKeeper_51 : decode cX5_asKeeper 51 = .ok (.goto 9, 3) := by decide +kernel
theorem dX5_asKeeper_54 : decode cX5_asKeeper 54 = .ok (.aload_n 0, 1) := by decide +kernel
theorem dX5_asKeeper_55 : decode cX5_asKeeper 55 = .ok (.iload_n 1, 1) := by decide +kernel
theorem dX5_asKeeper_56 : decode cX5_asKeeper 56 = .ok (.iconst 1, 1) := by decide +kernel
theorem dX5_asKeeper_57 : decode cX5_asKeeper 57 = .ok (.invokevirtual 44, 3) := by decide +kernel
theorem dX5_asKeeper_60 : decode cX5_asKeeper 60 = .ok (.istore 4, 2) := by decide +kernel
theorem dX5_asKeeper_62 : decode cX5_asKeeper 62 = .ok (.iload 4, 2) := by decide +kernel
theorem dX5_asKeeper_64 : decode cX5_asKeeper 64 = .ok (.iconst 1, 1) := by decide +kernel
theorem dX5_asKeeper_65 : decode cX5_asKeeper 65 = .ok (.if_icmp .ge 7, 3) := by decide +kernel
theorem dX5_asKeeper_68 : decode cX5_asKeeper 68 = .ok (.iconst 1, 1) := by decide +kernel
theorem dX5_asKeeper_69 : decode cX5_asKeeper 69 = .ok (.goto 5, 3) := by decide +kernel
theorem dX5_asKeeper_72 : decode cX5_asKeeper 72 = .ok (.iload 4, 2) := by decide +kernel
theorem dX5_asKeeper_74 : decode cX5_asKeeper 74 = .ok (.ireturn, 1) := by decide +kernel
set_option maxRecDepth 20000 in
theorem ggX5_wishOf_X5_is : GoodIn wsX5_wishOf wsX5_is := goodIn_r _ [6, 1, 19, 20, 21, 22, 23, 24, 25, 26, 27, 28, 29, 30, 31, 32, 33] rfl (by decide +kernel)
set_option maxRecDepth 20000 in
theorem gX5_wishOf_X5_is : GoodIn wsX5_wishOf (wsV RX5 44 RX5 yX5_is wsX5_is) := goodIn_app (goodIn_of _ (by decide +kernel)) ggX5_wishOf_X5_is
set_option maxRecDepth 20000 in
theorem ggX5_wishOf_X5_asHolder : GoodIn wsX5_wishOf wsX5_asHolder := goodIn_r _ [10, 1, 2, 3, 4, 5, 6, 19, 20, 21, 22, 23, 24, 25, 26, 27, 28, 29, 30, 31, 32, 33] rfl (by decide +kernel)
set_option maxRecDepth 20000 in
theorem gX5_wishOf_X5_asHolder : GoodIn wsX5_wishOf (wsV RX5 102 RX5 yX5_asHolder wsX5_asHolder) := goodIn_app (goodIn_of _ (by decide +kernel)) ggX5_wishOf_X5_asHolder
set_option maxRecDepth 20000 in
theorem ggX5_wishOf_X5_asKeeper : GoodIn wsX5_wishOf wsX5_asKeeper := goodIn_r _ [14, 2, 3, 4, 5, 6, 1, 15, 16, 17, 18, 19, 20, 21, 22, 23, 24, 25, 26, 27, 28, 29, 30, 31, 32, 33] rfl (by decide +kernel)
set_option maxRecDepth 20000 in
theorem gX5_wishOf_X5_asKeeper : GoodIn wsX5_wishOf (wsV RX5 105 RX5 yX5_asKeeper wsX5_asKeeper) := goodIn_app (goodIn_of _ (by decide +kernel)) ggX5_wishOf_X5_asKeeper
set_option maxRecDepth 20000 in
theorem ggX5_wishOf_X5_isHome : GoodIn wsX5_wishOf wsX5_isHome := goodIn_r _ [18, 2, 3, 4, 5, 6, 1, 19, 20, 21, 22, 23, 24, 25, 26, 27, 28, 29, 30, 31, 32, 33] rfl (by decide +kernel)
set_option maxRecDepth 20000 in
theorem gX5_wishOf_X5_isHome : GoodIn wsX5_wishOf (wsV RX5 78 RX5 yX5_isHome wsX5_isHome) := goodIn_app (goodIn_of _ (by decide +kernel)) ggX5_wishOf_X5_isHome
theorem dX5_wishOf_0 : decode cX5_wishOf 0 = .ok (.aload_n 0, 1) := by decide +kernel
theorem dX5_wishOf_1 : decode cX5_wishOf 1 = .ok (.iload_n 1, 1) := by decide +kernel
theorem dX5_wishOf_2 : decode cX5_wishOf 2 = .ok (.iconst 0, 1) := by decide +kernel
theorem dX5_wishOf_3 : decode cX5_wishOf 3 = .ok (.invokevirtual 44, 3) := by decide +kernel
theorem dX5_wishOf_6 : decode cX5_wishOf 6 = .ok (.tableswitch 164 1 5 #[34, 41, 47, 84, 129], 34) := by decide +kernel
theorem dX5_wishOf_40 : decode cX5_wishOf 40 = .ok (.aload_n 0, 1) := by decide +kernel
theorem dX5_wishOf_41 : decode cX5_wishOf 41 = .ok (.iload_n 1, 1) := by decide +kernel
theorem dX5_wishOf_42 : decode cX5_wishOf 42 = .ok (.iload_n 2, 1) := by decide +kernel
theorem dX5_wishOf_43 : decode cX5_wishOf 43 = .ok (.invokevirtual 102, 3) := by decide +kernel
theorem dX5_wishOf_46 : decode cX5_wishOf 46 = .ok (.ireturn, 1) := by decide +kernel
theorem dX5_wishOf_47 : decode cX5_wishOf 47 = .ok (.aload_n 0, 1) := by decide +kernel
theorem dX5_wishOf_48 : decode cX5_wishOf 48 = .ok (.iload_n 1, 1) := by decide +kernel
theorem dX5_wishOf_49 : decode cX5_wishOf 49 = .ok (.invokevirtual 105, 3) := by decide +kernel
theorem dX5_wishOf_52 : decode cX5_wishOf 52 = .ok (.ireturn, 1) := by decide +kernel
theorem dX5_wishOf_53 : decode cX5_wishOf 53 = .ok (.aload_n 0, 1) := by decide +kernel
theorem dX5_wishOf_54 : decode cX5_wishOf 54 = .ok (.iload_n 1, 1) := by decide +kernel
theorem dX5_wishOf_55 : decode cX5_wishOf 55 = .ok (.iconst 3, 1) := by decide +kernel
theorem dX5_wishOf_56 : decode cX5_wishOf 56 = .ok (.invokevirtual 44, 3) := by decide +kernel
theorem dX5_wishOf_59 : decode cX5_wishOf 59 = .ok (.ifCond .lt 25, 3) := by decide +kernel
theorem dX5_wishOf_62 : decode cX5_wishOf 62 = .ok (.aload_n 0, 1) := by decide +kernel
theorem dX5_wishOf_63 : decode cX5_wishOf 63 = .ok (.aload_n 0, 1) := by decide +kernel
theorem dX5_wishOf_64 : decode cX5_wishOf 64 = .ok (.iload_n 1, 1) := by decide +kernel
theorem dX5_wishOf_65 : decode cX5_wishOf 65 = .ok (.iconst 3, 1) := by decide +kernel
theorem dX5_wishOf_66 : decode cX5_wishOf 66 = .ok (.invokevirtual 44, 3) := by decide +kernel
theorem dX5_wishOf_69 : decode cX5_wishOf 69 = .ok (.invokevirtual 78, 3) := by decide +kernel
theorem dX5_wishOf_72 : decode cX5_wishOf 72 = .ok (.ifCond .eq 12, 3) := by decide +kernel
theorem dX5_wishOf_75 : decode cX5_wishOf 75 = .ok (.aload_n 0, 1) := by decide +kernel
theorem dX5_wishOf_76 : decode cX5_wishOf 76 = .ok (.getfield 7, 3) := by decide +kernel
theorem dX5_wishOf_79 : decode cX5_wishOf 79 = .ok (.iconst 2, 1) := by decide +kernel
theorem dX5_wishOf_80 : decode cX5_wishOf 80 = .ok (.iaload, 1) := by decide +kernel
theorem dX5_wishOf_81 : decode cX5_wishOf 81 = .ok (.goto 8, 3) := by decide +kernel
theorem dX5_wishOf_84 : decode cX5_wishOf 84 = .ok (.aload_n 0, 1) := by decide +kernel
theorem dX5_wishOf_85 : decode cX5_wishOf 85 = .ok (.iload_n 1, 1) := by decide +kernel
theorem dX5_wishOf_86 : decode cX5_wishOf 86 = .ok (.invokevirtual 105, 3) := by decide +kernel
theorem dX5_wishOf_89 : decode cX5_wishOf 89 = .ok (.ireturn, 1) := by decide +kernel
theorem dX5_wishOf_90 : decode cX5_wishOf 90 = .ok (.aload_n 0, 1) := by decide +kernel
theorem dX5_wishOf_91 : decode cX5_wishOf 91 = .ok (.iload_n 1, 1) := by decide +kernel
theorem dX5_wishOf_92 : decode cX5_wishOf 92 = .ok (.iconst 5, 1) := by decide +kernel
theorem dX5_wishOf_93 : decode cX5_wishOf 93 = .ok (.invokevirtual 44, 3) := by decide +kernel
theorem dX5_wishOf_96 : decode cX5_wishOf 96 = .ok (.aload_n 0, 1) := by decide +kernel
theorem dX5_wishOf_97 : decode cX5_wishOf 97 = .ok (.getfield 7, 3) := by decide +kernel
theorem dX5_wishOf_100 : decode cX5_wishOf 100 = .ok (.iconst 1, 1) := by decide +kernel
theorem dX5_wishOf_101 : decode cX5_wishOf 101 = .ok (.iaload, 1) := by decide +kernel
theorem dX5_wishOf_102 : decode cX5_wishOf 102 = .ok (.bipush 40, 2) := by decide +kernel
theorem dX5_wishOf_104 : decode cX5_wishOf 104 = .ok (.isub, 1) := by decide +kernel
theorem dX5_wishOf_105 : decode cX5_wishOf 105 = .ok (.if_icmp .lt 23, 3) := by decide +kernel
theorem dX5_wishOf_108 : decode cX5_wishOf 108 = .ok (.iload_n 3, 1) := by decide +kernel
theorem dX5_wishOf_109 : decode cX5_wishOf 109 = .ok (.ifCond .gt 8, 3) := by decide +kernel
theorem dX5_wishOf_112 : decode cX5_wishOf 112 = .ok (.iload_n 1, 1) := by decide +kernel
theorem dX5_wishOf_113 : decode cX5_wishOf 113 = .ok (.iload_n 2, 1) := by decide +kernel
theorem dX5_wishOf_114 : decode cX5_wishOf 114 = .ok (.if_icmp .eq 14, 3) := by decide +kernel
theorem dX5_wishOf_117 : decode cX5_wishOf 117 = .ok (.iconst 2, 1) := by decide +kernel
theorem dX5_wishOf_118 : decode cX5_wishOf 118 = .ok (.aload_n 0, 1) := by decide +kernel
theorem dX5_wishOf_119 : decode cX5_wishOf 119 = .ok (.iload_n 1, 1) := by decide +kernel
theorem dX5_wishOf_120 : decode cX5_wishOf 120 = .ok (.iload_n 2, 1) := by decide +kernel
theorem dX5_wishOf_121 : decode cX5_wishOf 121 = .ok (.invokevirtual 102, 3) := by decide +kernel
theorem dX5_wishOf_124 : decode cX5_wishOf 124 = .ok (.imul, 1) := by decide +kernel
theorem dX5_wishOf_125 : decode cX5_wishOf 125 = .ok (.goto 9, 3) := by decide +kernel
theorem dX5_wishOf_128 : decode cX5_wishOf 128 = .ok (.aload_n 0, 1) := by decide +kernel
theorem dX5_wishOf_129 : decode cX5_wishOf 129 = .ok (.iload_n 1, 1) := by decide +kernel
theorem dX5_wishOf_130 : decode cX5_wishOf 130 = .ok (.iload_n 2, 1) := by decide +kernel
theorem dX5_wishOf_131 : decode cX5_wishOf 131 = .ok (.invokevirtual 102, 3) := by decide +kernel
theorem dX5_wishOf_134 : decode cX5_wishOf 134 = .ok (.ireturn, 1) := by decide +kernel
theorem dX5_wishOf_135 : decode cX5_wishOf 135 = .ok (.aload_n 0, 1) := by decide +kernel
theorem dX5_wishOf_136 : decode cX5_wishOf 136 = .ok (.iload_n 1, 1) := by decide +kernel
theorem dX5_wishOf_137 : decode cX5_wishOf 137 = .ok (.iload_n 2, 1) := by decide +kernel
theorem dX5_wishOf_138 : decode cX5_wishOf 138 = .ok (.invokevirtual 102, 3) := by decide +kernel
theorem dX5_wishOf_141 : decode cX5_wishOf 141 = .ok (.aload_n 0, 1) := by decide +kernel
theorem dX5_wishOf_142 : decode cX5_wishOf 142 = .ok (.getfield 7, 3) := by decide +kernel
theorem dX5_wishOf_145 : decode cX5_wishOf 145 = .ok (.iconst 2, 1) := by decide +kernel
theorem dX5_wishOf_146 : decode cX5_wishOf 146 = .ok (.iaload, 1) := by decide +kernel
theorem dX5_wishOf_147 : decode cX5_wishOf 147 = .ok (.iconst 2, 1) := by decide +kernel
theorem dX5_wishOf_148 : decode cX5_wishOf 148 = .ok (.iadd, 1) := by decide +kernel
theorem dX5_wishOf_149 : decode cX5_wishOf 149 = .ok (.if_icmp .ge 12, 3) := by decide +kernel
theorem dX5_wishOf_152 : decode cX5_wishOf 152 = .ok (.aload_n 0, 1) := by decide +kernel
theorem dX5_wishOf_153 : decode cX5_wishOf 153 = .ok (.iload_n 1, 1) := by decide +kernel
theorem dX5_wishOf_154 : decode cX5_wishOf 154 = .ok (.iload_n 2, 1) := by decide +kernel
theorem dX5_wishOf_155 : decode cX5_wishOf 155 = .ok (.invokevirtual 102, 3) := by decide +kernel
theorem dX5_wishOf_158 : decode cX5_wishOf 158 = .ok (.goto 11, 3) := by decide +kernel
theorem dX5_wishOf_161 : decode cX5_wishOf 161 = .ok (.aload_n 0, 1) := by decide +kernel
theorem dX5_wishOf_162 : decode cX5_wishOf 162 = .ok (.getfield 7, 3) := by decide +kernel
theorem dX5_wishOf_165 : decode cX5_wishOf 165 = .ok (.iconst 2, 1) := by decide +kernel
theorem dX5_wishOf_166 : decode cX5_wishOf 166 = .ok (.iaload, 1) := by decide +kernel
theorem dX5_wishOf_167 : decode cX5_wishOf 167 = .ok (.iconst 2, 1) := by decide +kernel
theorem dX5_wishOf_168 : decode cX5_wishOf 168 = .ok (.iadd, 1) := by decide +kernel
theorem dX5_wishOf_169 : decode cX5_wishOf 169 = .ok (.ireturn, 1) := by decide +kernel
theorem dX5_wishOf_170 : decode cX5_wishOf 170 = .ok (.aload_n 0, 1) := by decide +kernel
theorem dX5_wishOf_171 : decode cX5_wishOf 171 = .ok (.iload_n 1, 1) := by decide +kernel
theorem dX5_wishOf_172 : decode cX5_wishOf 172 = .ok (.iconst 1, 1) := by decide +kernel
theorem dX5_wishOf_173 : decode cX5_wishOf 173 = .ok (.invokevirtual 44, 3) := by decide +kernel
theorem dX5_wishOf_176 : decode cX5_wishOf 176 = .ok (.ireturn, 1) := by decide +kernel
set_option maxRecDepth 20000 in
theorem ggX5_wish_X5_isRunner : GoodIn wsX5_wish wsX5_isRunner := goodIn_r _ [7, 8, 42, 43, 44, 45, 46, 47, 48, 49, 50, 51, 52, 53, 54, 55, 56] rfl (by decide +kernel)
set_option maxRecDepth 20000 in
theorem gX5_wish_X5_isRunner : GoodIn wsX5_wish (wsV RX5 86 RX5 yX5_isRunner wsX5_isRunner) := goodIn_app (goodIn_of _ (by decide +kernel)) ggX5_wish_X5_isRunner
set_option maxRecDepth 20000 in
theorem ggX5_wish_X5_finds : GoodIn wsX5_wish wsX5_finds := goodIn_r _ [12, 13, 1, 42, 43, 44, 45, 46, 47, 48, 49, 50, 51, 52, 53, 54, 55, 56] rfl (by decide +kernel)
set_option maxRecDepth 20000 in
theorem gX5_wish_X5_finds : GoodIn wsX5_wish (wsV RX5 40 RX5 yX5_finds wsX5_finds) := goodIn_app (goodIn_of _ (by decide +kernel)) ggX5_wish_X5_finds
set_option maxRecDepth 20000 in
theorem ggX5_wish_X5_isHome : GoodIn wsX5_wish wsX5_isHome := goodIn_r _ [17, 18, 19, 20, 6, 21, 8, 42, 43, 44, 45, 46, 47, 48, 49, 50, 51, 52, 53, 54, 55, 56] rfl (by decide +kernel)
set_option maxRecDepth 20000 in
theorem gX5_wish_X5_isHome : GoodIn wsX5_wish (wsV RX5 78 RX5 yX5_isHome wsX5_isHome) := goodIn_app (goodIn_of _ (by decide +kernel)) ggX5_wish_X5_isHome
set_option maxRecDepth 20000 in
theorem ggX5_wish_X5_firstAlone : GoodIn wsX5_wish wsX5_firstAlone := goodIn_r _ [25, 8, 14, 15, 16, 6, 17, 18, 19, 20, 21, 42, 43, 44, 45, 46, 47, 48, 49, 50, 51, 52, 53, 54, 55, 56] rfl (by decide +kernel)
set_option maxRecDepth 20000 in
theorem gX5_wish_X5_firstAlone : GoodIn wsX5_wish (wsV RX5 108 RX5 yX5_firstAlone wsX5_firstAlone) := goodIn_app (goodIn_of _ (by decide +kernel)) ggX5_wish_X5_firstAlone
set_option maxRecDepth 20000 in
theorem ggX5_wish_X5_homeMany : GoodIn wsX5_wish wsX5_homeMany := goodIn_r _ [29, 8, 14, 15, 16, 6, 17, 18, 19, 20, 21, 42, 43, 44, 45, 46, 47, 48, 49, 50, 51, 52, 53, 54, 55, 56] rfl (by decide +kernel)
set_option maxRecDepth 20000 in
theorem gX5_wish_X5_homeMany : GoodIn wsX5_wish (wsV RX5 112 RX5 yX5_homeMany wsX5_homeMany) := goodIn_app (goodIn_of _ (by decide +kernel)) ggX5_wish_X5_homeMany
set_option maxRecDepth 20000 in
theorem ggX5_wish_X5_wishOf : GoodIn wsX5_wish wsX5_wishOf := goodIn_r _ [33, 8, 18, 19, 20, 6, 21, 34, 35, 36, 37, 38, 39, 40, 41, 14, 15, 16, 17, 42, 43, 44, 45, 46, 47, 48, 49, 50, 51, 52, 53, 54, 55, 56] rfl (by decide +kernel)
set_option maxRecDepth 20000 in
theorem gX5_wish_X5_wishOf : GoodIn wsX5_wish (wsV RX5 115 RX5 yX5_wishOf wsX5_wishOf) := goodIn_app (goodIn_of _ (by decide +kernel)) ggX5_wish_X5_wishOf
theorem dX5_wish_0 : decode cX5_wish 0 = .ok (.aload_n 0, 1) := by decide +kernel
theorem dX5_wish_1 : decode cX5_wish 1 = .ok (.iload_n 1, 1) := by decide +kernel
theorem dX5_wish_2 : decode cX5_wish 2 = .ok (.invokevirtual 86, 3) := by decide +kernel
theorem dX5_wish_5 : decode cX5_wish 5 = .ok (.ifCond .ne 10, 3) := by decide +kernel
theorem dX5_wish_8 : decode cX5_wish 8 = .ok (.aload_n 0, 1) := by decide +kernel
theorem dX5_wish_9 : decode cX5_wish 9 = .ok (.ldc 38, 2) := by decide +kernel
theorem dX5_wish_11 : decode cX5_wish 11 = .ok (.invokevirtual 40, 3) := by decide +kernel
theorem dX5_wish_14 : decode cX5_wish 14 = .ok (.ireturn, 1) := by decide +kernel
theorem dX5_wish_15 : decode cX5_wish 15 = .ok (.aload_n 0, 1) := by decide +kernel
theorem dX5_wish_16 : decode cX5_wish 16 = .ok (.iload_n 1, 1) := by decide +kernel
theorem dX5_wish_17 : decode cX5_wish 17 = .ok (.invokevirtual 78, 3) := by decide +kernel
theorem dX5_wish_20 : decode cX5_wish 20 = .ok (.ifCond .eq 12, 3) := by decide +kernel
theorem dX5_wish_23 : decode cX5_wish 23 = .ok (.aload_n 0, 1) := by decide +kernel
theorem dX5_wish_24 : decode cX5_wish 24 = .ok (.ldc 60, 2) := by decide +kernel
theorem dX5_wish_26 : decode cX5_wish 26 = .ok (.invokevirtual 40, 3) := by decide +kernel
theorem dX5_wish_29 : decode cX5_wish 29 = .ok (.goto 16, 3) := by decide +kernel
theorem dX5_wish_32 : decode cX5_wish 32 = .ok (.aload_n 0, 1) := by decide +kernel
theorem dX5_wish_33 : decode cX5_wish 33 = .ok (.iload_n 1, 1) := by decide +kernel
theorem dX5_wish_34 : decode cX5_wish 34 = .ok (.aload_n 0, 1) := by decide +kernel
theorem dX5_wish_35 : decode cX5_wish 35 = .ok (.invokevirtual 108, 3) := by decide +kernel
theorem dX5_wish_38 : decode cX5_wish 38 = .ok (.aload_n 0, 1) := by decide +kernel
theorem dX5_wish_39 : decode cX5_wish 39 = .ok (.invokevirtual 112, 3) := by decide +kernel
theorem dX5_wish_42 : decode cX5_wish 42 = .ok (.invokevirtual 115, 3) := by decide +kernel
theorem dX5_wish_45 : decode cX5_wish 45 = .ok (.ireturn, 1) := by decide +kernel
set_option maxRecDepth 20000 in
theorem ggX5_lines_X5_is : GoodIn wsX5_lines wsX5_is := goodIn_r _ [6, 1, 11, 12, 13, 14, 15, 16, 17, 18, 19, 20, 21, 22, 23, 24, 25] rfl (by decide +kernel)
set_option maxRecDepth 20000 in
theorem gX5_lines_X5_is : GoodIn wsX5_lines (wsV RX5 44 RX5 yX5_is wsX5_is) := goodIn_app (goodIn_of _ (by decide +kernel)) ggX5_lines_X5_is
set_option maxRecDepth 20000 in
theorem ggX5_lines_X5_puts : GoodIn wsX5_lines wsX5_puts := goodIn_r _ [10, 1, 11, 12, 13, 14, 15, 16, 17, 18, 19, 20, 21, 22, 23, 24, 25] rfl (by decide +kernel)
set_option maxRecDepth 20000 in
theorem gX5_lines_X5_puts : GoodIn wsX5_lines (wsV RX5 64 RX5 yX5_puts wsX5_puts) := goodIn_app (goodIn_of _ (by decide +kernel)) ggX5_lines_X5_puts
theorem dX5_lines_0 : decode cX5_lines 0 = .ok (.iconst 0, 1) := by decide +kernel
theorem dX5_lines_1 : decode cX5_lines 1 = .ok (.istore_n 1, 1) := by decide +kernel
theorem dX5_lines_2 : decode cX5_lines 2 = .ok (.iload_n 1, 1) := by decide +kernel
theorem dX5_lines_3 : decode cX5_lines 3 = .ok (.aload_n 0, 1) := by decide +kernel
theorem dX5_lines_4 : decode cX5_lines 4 = .ok (.getfield 7, 3) := by decide +kernel
theorem dX5_lines_7 : decode cX5_lines 7 = .ok (.iconst 0, 1) := by decide +kernel
theorem dX5_lines_8 : decode cX5_lines 8 = .ok (.iaload, 1) := by decide +kernel
theorem dX5_lines_9 : decode cX5_lines 9 = .ok (.if_icmp .ge 29, 3) := by decide +kernel
theorem dX5_lines_12 : decode cX5_lines 12 = .ok (.aload_n 0, 1) := by decide +kernel
theorem dX5_lines_13 : decode cX5_lines 13 = .ok (.iload_n 1, 1) := by decide +kernel
theorem dX5_lines_14 : decode cX5_lines 14 = .ok (.iconst 5, 1) := by decide +kernel
theorem dX5_lines_15 : decode cX5_lines 15 = .ok (.aload_n 0, 1) := by decide +kernel
theorem dX5_lines_16 : decode cX5_lines 16 = .ok (.iload_n 1, 1) := by decide +kernel
theorem dX5_lines_17 : decode cX5_lines 17 = .ok (.iconst 4, 1) := by decide +kernel
theorem dX5_lines_18 : decode cX5_lines 18 = .ok (.invokevirtual 44, 3) := by decide +kernel
theorem dX5_lines_21 : decode cX5_lines 21 = .ok (.invokevirtual 64, 3) := by decide +kernel
theorem dX5_lines_24 : decode cX5_lines 24 = .ok (.aload_n 0, 1) := by decide +kernel
theorem dX5_lines_25 : decode cX5_lines 25 = .ok (.iload_n 1, 1) := by decide +kernel
theorem dX5_lines_26 : decode cX5_lines 26 = .ok (.bipush 7, 2) := by decide +kernel
theorem dX5_lines_28 : decode cX5_lines 28 = .ok (.iconst (-1), 1) := by decide +kernel
theorem dX5_lines_29 : decode cX5_lines 29 = .ok (.invokevirtual 64, 3) := by decide +kernel
theorem dX5_lines_32 : decode cX5_lines 32 = .ok (.iinc 1 1, 3) := by decide +kernel
theorem dX5_lines_35 : decode cX5_lines 35 = .ok (.goto (-33), 3) := by decide +kernel
theorem dX5_lines_38 : decode cX5_lines 38 = .ok (.aload_n 0, 1) := by decide +kernel
theorem dX5_lines_39 : decode cX5_lines 39 = .ok (.getfield 7, 3) := by decide +kernel
theorem dX5_lines_42 : decode cX5_lines 42 = .ok (.iconst 4, 1) := by decide +kernel
theorem dX5_lines_43 : decode cX5_lines 43 = .ok (.iconst 0, 1) := by decide +kernel
theorem dX5_lines_44 : decode cX5_lines 44 = .ok (.iastore, 1) := by decide +kernel
theorem dX5_lines_45 : decode cX5_lines 45 = .ok (.return_, 1) := by decide +kernel
set_option maxRecDepth 20000 in
theorem ggX5_line_X5_homeMany : GoodIn wsX5_line wsX5_homeMany := goodIn_r _ [5, 6, 7, 8, 9, 4, 10, 11, 12, 13, 14, 23, 24, 25, 26, 27, 28, 29, 30, 31, 32, 33, 34, 35, 36, 37] rfl (by decide +kernel)
set_option maxRecDepth 20000 in
theorem gX5_line_X5_homeMany : GoodIn wsX5_line (wsV RX5 112 RX5 yX5_homeMany wsX5_homeMany) := goodIn_app (goodIn_of _ (by decide +kernel)) ggX5_line_X5_homeMany
set_option maxRecDepth 20000 in
theorem ggX5_line_X5_lines : GoodIn wsX5_line wsX5_lines := goodIn_r _ [18, 6, 11, 12, 13, 4, 14, 19, 20, 21, 22, 23, 24, 25, 26, 27, 28, 29, 30, 31, 32, 33, 34, 35, 36, 37] rfl (by decide +kernel)
set_option maxRecDepth 20000 in
theorem gX5_line_X5_lines : GoodIn wsX5_line (wsV RX5 119 RX5 yX5_lines wsX5_lines) := goodIn_app (goodIn_of _ (by decide +kernel)) ggX5_line_X5_lines
theorem dX5_line_0 : decode cX5_line 0 = .ok (.aload_n 0, 1) := by decide +kernel
theorem dX5_line_1 : decode cX5_line 1 = .ok (.invokevirtual 112, 3) := by decide +kernel
theorem dX5_line_4 : decode cX5_line 4 = .ok (.istore_n 1, 1) := by decide +kernel
theorem dX5_line_5 : decode cX5_line 5 = .ok (.aload_n 0, 1) := by decide +kernel
theorem dX5_line_6 : decode cX5_line 6 = .ok (.invokevirtual 119, 3) := by decide +kernel
theorem dX5_line_9 : decode cX5_line 9 = .ok (.iload_n 1, 1) := by decide +kernel
theorem dX5_line_10 : decode cX5_line 10 = .ok (.ireturn, 1) := by decide +kernel
set_option maxRecDepth 20000 in
theorem ggX5_goesOn_X5_homeMany : GoodIn wsX5_goesOn wsX5_homeMany := goodIn_r _ [7, 1, 8, 9, 10, 6, 11, 12, 13, 14, 15, 36, 37, 38, 39, 40, 41, 42, 43, 44, 45, 46, 47, 48, 49, 50] rfl (by decide +kernel)
set_option maxRecDepth 20000 in
theorem gX5_goesOn_X5_homeMany : GoodIn wsX5_goesOn (wsV RX5 112 RX5 yX5_homeMany wsX5_homeMany) := goodIn_app (goodIn_of _ (by decide +kernel)) ggX5_goesOn_X5_homeMany
set_option maxRecDepth 20000 in
theorem ggX5_goesOn_X5_firstAlone : GoodIn wsX5_goesOn wsX5_firstAlone := goodIn_r _ [19, 1, 8, 9, 10, 6, 11, 12, 13, 14, 15, 36, 37, 38, 39, 40, 41, 42, 43, 44, 45, 46, 47, 48, 49, 50] rfl (by decide +kernel)
set_option maxRecDepth 20000 in
theorem gX5_goesOn_X5_firstAlone : GoodIn wsX5_goesOn (wsV RX5 108 RX5 yX5_firstAlone wsX5_firstAlone) := goodIn_app (goodIn_of _ (by decide +kernel)) ggX5_goesOn_X5_firstAlone
set_option maxRecDepth 20000 in
theorem ggX5_goesOn_X5_isHome : GoodIn wsX5_goesOn wsX5_isHome := goodIn_r _ [11, 12, 13, 14, 6, 15, 1, 36, 37, 38, 39, 40, 41, 42, 43, 44, 45, 46, 47, 48, 49, 50] rfl (by decide +kernel)
