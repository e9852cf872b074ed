theorem dX0_isUnder_0 : decode cX0_isUnder 0 = .ok (.iload_n 0, 1) := by decide +kernel
theorem dX0_isUnder_1 : decode cX0_isUnder 1 = .ok (.istore_n 2, 1) := by decide +kernel
theorem dX0_isUnder_2 : decode cX0_isUnder 2 = .ok (.iconst 0, 1) := by decide +kernel
theorem dX0_isUnder_3 : decode cX0_isUnder 3 = .ok (.istore_n 3, 1) := by decide +kernel
theorem dX0_isUnder_4 : decode cX0_isUnder 4 = .ok (.iload_n 3, 1) := by decide +kernel
theorem dX0_isUnder_5 : decode cX0_isUnder 5 = .ok (.bipush 6, 2) := by decide +kernel
theorem dX0_isUnder_7 : decode cX0_isUnder 7 = .ok (.if_icmp .ge 34, 3) := by decide +kernel
theorem dX0_isUnder_10 : decode cX0_isUnder 10 = .ok (.iload_n 2, 1) := by decide +kernel
theorem dX0_isUnder_11 : decode cX0_isUnder 11 = .ok (.ifCond .lt 30, 3) := by decide +kernel
theorem dX0_isUnder_14 : decode cX0_isUnder 14 = .ok (.iload_n 2, 1) := by decide +kernel
theorem dX0_isUnder_15 : decode cX0_isUnder 15 = .ok (.getstatic 9, 3) := by decide +kernel
theorem dX0_isUnder_18 : decode cX0_isUnder 18 = .ok (.arraylength, 1) := by decide +kernel
theorem dX0_isUnder_19 : decode cX0_isUnder 19 = .ok (.if_icmp .ge 22, 3) := by decide +kernel
theorem dX0_isUnder_22 : decode cX0_isUnder 22 = .ok (.iload_n 2, 1) := by decide +kernel
theorem dX0_isUnder_23 : decode cX0_isUnder 23 = .ok (.iload_n 1, 1) := by decide +kernel
theorem dX0_isUnder_24 : decode cX0_isUnder 24 = .ok (.if_icmp .ne 5, 3) := by decide +kernel
theorem dX0_isUnder_27 : decode cX0_isUnder 27 = .ok (.iconst 1, 1) := by decide +kernel
theorem dX0_isUnder_28 : decode cX0_isUnder 28 = .ok (.ireturn, 1) := by decide +kernel
theorem dX0_isUnder_29 : decode cX0_isUnder 29 = .ok (.getstatic 9, 3) := by decide +kernel
theorem dX0_isUnder_32 : decode cX0_isUnder 32 = .ok (.iload_n 2, 1) := by decide +kernel
theorem dX0_isUnder_33 : decode cX0_isUnder 33 = .ok (.iaload, 1) := by decide +kernel
theorem dX0_isUnder_34 : decode cX0_isUnder 34 = .ok (.istore_n 2, 1) := by decide +kernel
theorem dX0_isUnder_35 : decode cX0_isUnder 35 = .ok (.iinc 3 1, 3) := by decide +kernel
theorem dX0_isUnder_38 : decode cX0_isUnder 38 = .ok (.goto (-34), 3) := by decide +kernel
theorem dX0_isUnder_41 : decode cX0_isUnder 41 = .ok (.iconst 0, 1) := by decide +kernel
theorem dX0_isUnder_42 : decode cX0_isUnder 42 = .ok (.ireturn, 1) := by decide +kernel
theorem dX0_name_0 : decode cX0_name 0 = .ok (.iload_n 0, 1) := by decide +kernel
theorem dX0_name_1 : decode cX0_name 1 = .ok (.tableswitch 50 0 4 #[35, 38, 41, 44, 47], 35) := by decide +kernel
theorem dX0_name_36 : decode cX0_name 36 = .ok (.ldc 15, 2) := by decide +kernel
theorem dX0_name_38 : decode cX0_name 38 = .ok (.areturn, 1) := by decide +kernel
theorem dX0_name_39 : decode cX0_name 39 = .ok (.ldc 17, 2) := by decide +kernel
theorem dX0_name_41 : decode cX0_name 41 = .ok (.areturn, 1) := by decide +kernel
theorem dX0_name_42 : decode cX0_name 42 = .ok (.ldc 19, 2) := by decide +kernel
theorem dX0_name_44 : decode cX0_name 44 = .ok (.areturn, 1) := by decide +kernel
theorem dX0_name_45 : decode cX0_name 45 = .ok (.ldc 21, 2) := by decide +kernel
theorem dX0_name_47 : decode cX0_name 47 = .ok (.areturn, 1) := by decide +kernel
theorem dX0_name_48 : decode cX0_name 48 = .ok (.ldc 23, 2) := by decide +kernel
theorem dX0_name_50 : decode cX0_name 50 = .ok (.areturn, 1) := by decide +kernel
theorem dX0_name_51 : decode cX0_name 51 = .ok (.ldc 25, 2) := by decide +kernel
theorem dX0_name_53 : decode cX0_name 53 = .ok (.areturn, 1) := by decide +kernel
theorem dX1_init_0 : decode cX1_init 0 = .ok (.aload_n 0, 1) := by decide +kernel
theorem dX1_init_1 : decode cX1_init 1 = .ok (.invokespecial 3, 3) := by decide +kernel
theorem dX1_init_4 : decode cX1_init 4 = .ok (.aload_n 0, 1) := by decide +kernel
theorem dX1_init_5 : decode cX1_init 5 = .ok (.bipush 40, 2) := by decide +kernel
theorem dX1_init_7 : decode cX1_init 7 = .ok (.newarray .long, 2) := by decide +kernel
theorem dX1_init_9 : decode cX1_init 9 = .ok (.putfield 9, 3) := by decide +kernel
theorem dX1_init_12 : decode cX1_init 12 = .ok (.return_, 1) := by decide +kernel
theorem dX1_isMissing_0 : decode cX1_isMissing 0 = .ok (.aload_n 0, 1) := by decide +kernel
theorem dX1_isMissing_1 : decode cX1_isMissing 1 = .ok (.getfield 15, 3) := by decide +kernel
theorem dX1_isMissing_4 : decode cX1_isMissing 4 = .ok (.ifCond .ne 7, 3) := by decide +kernel
theorem dX1_isMissing_7 : decode cX1_isMissing 7 = .ok (.iconst 1, 1) := by decide +kernel
theorem dX1_isMissing_8 : decode cX1_isMissing 8 = .ok (.goto 4, 3) := by decide +kernel
theorem dX1_isMissing_11 : decode cX1_isMissing 11 = .ok (.iconst 0, 1) := by decide +kernel
theorem dX1_isMissing_12 : decode cX1_isMissing 12 = .ok (.ireturn, 1) := by decide +kernel
theorem dX1_has_0 : decode cX1_has 0 = .ok (.iload_n 1, 1) := by decide +kernel
theorem dX1_has_1 : decode cX1_has 1 = .ok (.ifCond .lt 21, 3) := by decide +kernel
theorem dX1_has_4 : decode cX1_has 4 = .ok (.iload_n 1, 1) := by decide +kernel
theorem dX1_has_5 : decode cX1_has 5 = .ok (.aload_n 0, 1) := by decide +kernel
theorem dX1_has_6 : decode cX1_has 6 = .ok (.getfield 19, 3) := by decide +kernel
theorem dX1_has_9 : decode cX1_has 9 = .ok (.if_icmp .ge 13, 3) := by decide +kernel
theorem dX1_has_12 : decode cX1_has 12 = .ok (.iload_n 1, 1) := by decide +kernel
theorem dX1_has_13 : decode cX1_has 13 = .ok (.bipush 40, 2) := by decide +kernel
theorem dX1_has_15 : decode cX1_has 15 = .ok (.if_icmp .ge 7, 3) := by decide +kernel
theorem dX1_has_18 : decode cX1_has 18 = .ok (.iconst 1, 1) := by decide +kernel
theorem dX1_has_19 : decode cX1_has 19 = .ok (.goto 4, 3) := by decide +kernel
theorem dX1_has_22 : decode cX1_has 22 = .ok (.iconst 0, 1) := by decide +kernel
theorem dX1_has_23 : decode cX1_has 23 = .ok (.ireturn, 1) := by decide +kernel
theorem dX1_hasRow_0 : decode cX1_hasRow 0 = .ok (.iload_n 1, 1) := by decide +kernel
theorem dX1_hasRow_1 : decode cX1_hasRow 1 = .ok (.ifCond .lt 29, 3) := by decide +kernel
theorem dX1_hasRow_4 : decode cX1_hasRow 4 = .ok (.iload_n 2, 1) := by decide +kernel
theorem dX1_hasRow_5 : decode cX1_hasRow 5 = .ok (.ifCond .lt 25, 3) := by decide +kernel
theorem dX1_hasRow_8 : decode cX1_hasRow 8 = .ok (.iload_n 2, 1) := by decide +kernel
theorem dX1_hasRow_9 : decode cX1_hasRow 9 = .ok (.aload_n 0, 1) := by decide +kernel
theorem dX1_hasRow_10 : decode cX1_hasRow 10 = .ok (.getfield 19, 3) := by decide +kernel
theorem dX1_hasRow_13 : decode cX1_hasRow 13 = .ok (.if_icmp .gt 17, 3) := by decide +kernel
theorem dX1_hasRow_16 : decode cX1_hasRow 16 = .ok (.iload_n 1, 1) := by decide +kernel
theorem dX1_hasRow_17 : decode cX1_hasRow 17 = .ok (.aload_n 0, 1) := by decide +kernel
theorem dX1_hasRow_18 : decode cX1_hasRow 18 = .ok (.getfield 19, 3) := by decide +kernel
theorem dX1_hasRow_21 : decode cX1_hasRow 21 = .ok (.iload_n 2, 1) := by decide +kernel
theorem dX1_hasRow_22 : decode cX1_hasRow 22 = .ok (.isub, 1) := by decide +kernel
theorem dX1_hasRow_23 : decode cX1_hasRow 23 = .ok (.if_icmp .gt 7, 3) := by decide +kernel
theorem dX1_hasRow_26 : decode cX1_hasRow 26 = .ok (.iconst 1, 1) := by decide +kernel
theorem dX1_hasRow_27 : decode cX1_hasRow 27 = .ok (.goto 4, 3) := by decide +kernel
theorem dX1_hasRow_30 : decode cX1_hasRow 30 = .ok (.iconst 0, 1) := by decide +kernel
theorem dX1_hasRow_31 : decode cX1_hasRow 31 = .ok (.ireturn, 1) := by decide +kernel
set_option maxRecDepth 20000 in
theorem ggX1_lay_J7_fill_d0a16 : GoodIn wsX1_lay wsJ7_fill_d0a16 := goodIn_r _ [7] rfl (by decide +kernel)
set_option maxRecDepth 20000 in
theorem gX1_lay_J7_fill_d0a16 : GoodIn wsX1_lay (va_wsS RX1 22 yJ7_fill_d0a16 wsJ7_fill_d0a16) := goodIn_app (goodIn_of _ (by decide +kernel)) ggX1_lay_J7_fill_d0a16
theorem dX1_lay_0 : decode cX1_lay 0 = .ok (.aload_n 0, 1) := by decide +kernel
theorem dX1_lay_1 : decode cX1_lay 1 = .ok (.iload_n 1, 1) := by decide +kernel
theorem dX1_lay_2 : decode cX1_lay 2 = .ok (.putfield 15, 3) := by decide +kernel
theorem dX1_lay_5 : decode cX1_lay 5 = .ok (.aload_n 0, 1) := by decide +kernel
theorem dX1_lay_6 : decode cX1_lay 6 = .ok (.iload_n 1, 1) := by decide +kernel
theorem dX1_lay_7 : decode cX1_lay 7 = .ok (.ifCond .ne 7, 3) := by decide +kernel
theorem dX1_lay_10 : decode cX1_lay 10 = .ok (.iconst 0, 1) := by decide +kernel
theorem dX1_lay_11 : decode cX1_lay 11 = .ok (.goto 4, 3) := by decide +kernel
theorem dX1_lay_14 : decode cX1_lay 14 = .ok (.iload_n 2, 1) := by decide +kernel
theorem dX1_lay_15 : decode cX1_lay 15 = .ok (.putfield 19, 3) := by decide +kernel
theorem dX1_lay_18 : decode cX1_lay 18 = .ok (.aload_n 0, 1) := by decide +kernel
theorem dX1_lay_19 : decode cX1_lay 19 = .ok (.getfield 9, 3) := by decide +kernel
theorem dX1_lay_22 : decode cX1_lay 22 = .ok (.lconst 0, 1) := by decide +kernel
theorem dX1_lay_23 : decode cX1_lay 23 = .ok (.invokestatic 22, 3) := by decide +kernel
theorem dX1_lay_26 : decode cX1_lay 26 = .ok (.aload_n 0, 1) := by decide +kernel
theorem dX1_lay_27 : decode cX1_lay 27 = .ok (.getfield 19, 3) := by decide +kernel
theorem dX1_lay_30 : decode cX1_lay 30 = .ok (.ireturn, 1) := by decide +kernel
set_option maxRecDepth 20000 in
theorem ggX1_put_X1_has : GoodIn wsX1_put wsX1_has := goodIn_r _ [6, 7, 13, 14, 15] rfl (by decide +kernel)
set_option maxRecDepth 20000 in
theorem gX1_put_X1_has : GoodIn wsX1_put (wsV RX1 28 RX1 yX1_has wsX1_has) := goodIn_app (goodIn_of _ (by decide +kernel)) ggX1_put_X1_has
set_option maxRecDepth 20000 in
theorem ggX1_put_X1_lowest : GoodIn wsX1_put wsX1_lowest := goodIn_r _ [11, 12, 13, 14, 15] rfl (by decide +kernel)
set_option maxRecDepth 20000 in
theorem gX1_put_X1_lowest : GoodIn wsX1_put (wsV RX1 32 RX1 yX1_lowest wsX1_lowest) := goodIn_app (goodIn_of _ (by decide +kernel)) ggX1_put_X1_lowest
theorem dX1_put_0 : decode cX1_put 0 = .ok (.aload_n 0, 1) := by decide +kernel
theorem dX1_put_1 : decode cX1_put 1 = .ok (.iload_n 1, 1) := by decide +kernel
theorem dX1_put_2 : decode cX1_put 2 = .ok (.invokevirtual 28, 3) := by decide +kernel
theorem dX1_put_5 : decode cX1_put 5 = .ok (.ifCond .eq 14, 3) := by decide +kernel
theorem dX1_put_8 : decode cX1_put 8 = .ok (.aload_n 0, 1) := by decide +kernel
theorem dX1_put_9 : decode cX1_put 9 = .ok (.getfield 9, 3) := by decide +kernel
theorem dX1_put_12 : decode cX1_put 12 = .ok (.iload_n 1, 1) := by decide +kernel
theorem dX1_put_13 : decode cX1_put 13 = .ok (.aload_n 0, 1) := by decide +kernel
theorem dX1_put_14 : decode cX1_put 14 = .ok (.lload_n 2, 1) := by decide +kernel
theorem dX1_put_15 : decode cX1_put 15 = .ok (.invokevirtual 32, 3) := by decide +kernel
theorem dX1_put_18 : decode cX1_put 18 = .ok (.lastore, 1) := by decide +kernel
theorem dX1_put_19 : decode cX1_put 19 = .ok (.return_, 1) := by decide +kernel
theorem dX1_lowest_0 : decode cX1_lowest 0 = .ok (.aload_n 0, 1) := by decide +kernel
theorem dX1_lowest_1 : decode cX1_lowest 1 = .ok (.getfield 15, 3) := by decide +kernel
theorem dX1_lowest_4 : decode cX1_lowest 4 = .ok (.lookupswitch 38 #[(8, 28), (16, 33)], 28) := by decide +kernel
theorem dX1_lowest_32 : decode cX1_lowest 32 = .ok (.lload_n 1, 1) := by decide +kernel
theorem dX1_lowest_33 : decode cX1_lowest 33 = .ok (.l2i, 1) := by decide +kernel
theorem dX1_lowest_34 : decode cX1_lowest 34 = .ok (.i2b, 1) := by decide +kernel
theorem dX1_lowest_35 : decode cX1_lowest 35 = .ok (.i2l, 1) := by decide +kernel
theorem dX1_lowest_36 : decode cX1_lowest 36 = .ok (.lreturn, 1) := by decide +kernel
theorem dX1_lowest_37 : decode cX1_lowest 37 = .ok (.lload_n 1, 1) := by decide +kernel
theorem dX1_lowest_38 : decode cX1_lowest 38 = .ok (.l2i, 1) := by decide +kernel
theorem dX1_lowest_39 : decode cX1_lowest 39 = .ok (.i2s, 1) := by decide +kernel
theorem dX1_lowest_40 : decode cX1_lowest 40 = .ok (.i2l, 1) := by decide +kernel
theorem dX1_lowest_41 : decode cX1_lowest 41 = .ok (.lreturn, 1) := by decide +kernel
theorem dX1_lowest_42 : decode cX1_lowest 42 = .ok (.lload_n 1, 1) := by decide +kernel
theorem dX1_lowest_43 : decode cX1_lowest 43 = .ok (.lreturn, 1) := by decide +kernel
theorem dX2_init_0 : decode cX2_init 0 = .ok (.aload_n 0, 1) := by decide +kernel
theorem dX2_init_1 : decode cX2_init 1 = .ok (.invokespecial 3, 3) := by decide +kernel
theorem dX2_init_4 : decode cX2_init 4 = .ok (.aload_n 0, 1) := by decide +kernel
theorem dX2_init_5 : decode cX2_init 5 = .ok (.bipush 120, 2) := by decide +kernel
theorem dX2_init_7 : decode cX2_init 7 = .ok (.newarray .byte, 2) := by decide +kernel
theorem dX2_init_9 : decode cX2_init 9 = .ok (.putfield 9, 3) := by decide +kernel
theorem dX2_init_12 : decode cX2_init 12 = .ok (.return_, 1) := by decide +kernel
theorem dX2_add_0 : decode cX2_add 0 = .ok (.aload_n 0, 1) := by decide +kernel
theorem dX2_add_1 : decode cX2_add 1 = .ok (.getfield 15, 3) := by decide +kernel
theorem dX2_add_4 : decode cX2_add 4 = .ok (.ifCond .lt 33, 3) := by decide +kernel
theorem dX2_add_7 : decode cX2_add 7 = .ok (.aload_n 0, 1) := by decide +kernel
theorem dX2_add_8 : decode cX2_add 8 = .ok (.getfield 15, 3) := by decide +kernel
theorem dX2_add_11 : decode cX2_add 11 = .ok (.bipush 120, 2) := by decide +kernel
theorem dX2_add_13 : decode cX2_add 13 = .ok (.if_icmp .ge 24, 3) := by decide +kernel
theorem dX2_add_16 : decode cX2_add 16 = .ok (.aload_n 0, 1) := by decide +kernel
theorem dX2_add_17 : decode cX2_add 17 = .ok (.getfield 9, 3) := by decide +kernel
theorem dX2_add_20 : decode cX2_add 20 = .ok (.aload_n 0, 1) := by decide +kernel
theorem dX2_add_21 : decode cX2_add 21 = .ok (.getfield 15, 3) := by decide +kernel
theorem dX2_add_24 : decode cX2_add 24 = .ok (.iload_n 1, 1) := by decide +kernel
theorem dX2_add_25 : decode cX2_add 25 = .ok (.i2b, 1) := by decide +kernel
theorem dX2_add_26 : decode cX2_add 26 = .ok (.bastore, 1) := by decide +kernel
theorem dX2_add_27 : decode cX2_add 27 = .ok (.aload_n 0, 1) := by decide +kernel
theorem dX2_add_28 : decode cX2_add 28 = .ok (.dup, 1) := by decide +kernel
theorem dX2_add_29 : decode cX2_add 29 = .ok (.getfield 15, 3) := by decide +kernel
theorem dX2_add_32 : decode cX2_add 32 = .ok (.iconst 1, 1) := by decide +kernel
theorem dX2_add_33 : decode cX2_add 33 = .ok (.iadd, 1) := by decide +kernel
theorem dX2_add_34 : decode cX2_add 34 = .ok (.putfield 15, 3) := by decide +kernel
theorem dX2_add_37 : decode cX2_add 37 = .ok (.return_, 1) := by decide +kernel
theorem dX2_empty_0 : decode cX2_empty 0 = .ok (.aload_n 0, 1) := by decide +kernel
theorem dX2_empty_1 : decode cX2_empty 1 = .ok (.getfield 15, 3) := by decide +kernel
theorem dX2_empty_4 : decode cX2_empty 4 = .ok (.istore_n 1, 1) := by decide +kernel
theorem dX2_empty_5 : decode cX2_empty 5 = .ok (.aload_n 0, 1) := by decide +kernel
theorem dX2_empty_6 : decode cX2_empty 6 = .ok (.iconst 0, 1) := by decide +kernel
theorem dX2_empty_7 : decode cX2_empty 7 = .ok (.putfield 15, 3) := by decide +kernel
theorem dX2_empty_10 : decode cX2_empty 10 = .ok (.iload_n 1, 1) := by decide +kernel
theorem dX2_empty_11 : decode cX2_empty 11 = .ok (.ireturn, 1) := by decide +kernel
set_option maxRecDepth 20000 in
theorem ggX2_readRace_X2_next : GoodIn wsX2_readRace wsX2_next := goodIn_r _ [8, 1, 3, 9, 2, 10, 11, 12, 7, 13, 14, 15, 16, 17, 133, 134, 135, 136, 137, 138] rfl (by decide +kernel)
set_option maxRecDepth 20000 in
theorem gX2_readRace_X2_next : GoodIn wsX2_readRace (wsV RX2 22 RX2 yX2_next wsX2_next) := goodIn_app (goodIn_of _ (by decide +kernel)) ggX2_readRace_X2_next
set_option maxRecDepth 20000 in
theorem ggX2_readRace_X2_readItem : GoodIn wsX2_readRace wsX2_readItem := goodIn_r _ [21, 22, 23, 24, 25, 7, 26, 27, 28, 29, 30, 31, 32, 33, 34, 2, 1, 3, 35, 36, 37, 38, 39, 40, 41, 42, 43, 44, 45, 46, 47, 48, 49, 50, 51, 52, 53, 54, 55, 56, 57, 58, 59, 60, 61, 62, 63, 64, 65, 66, 67, 68, 69, 70, 71, 72, 73, 74, 75, 76, 77, 78, 79, 80, 81, 82, 83, 10, 11, 12, 13, 9, 14, 84, 85, 86, 87, 88, 89, 90, 91, 92, 4, 5, 6, 8, 15, 16, 17, 93, 94, 95, 96, 97, 98, 99, 100, 101, 102, 103, 104, 105, 106, 107, 108, 109, 110, 111, 112, 113, 114, 115, 116, 117, 118, 119, 120, 121, 122, 123, 124, 125, 126, 127, 128, 129, 130, 131, 132, 139, 140, 141, 142, 143, 144, 145, 146, 147, 148, 149, 150, 151, 152, 153, 133, 134, 135, 136, 137, 138] rfl (by decide +kernel)
set_option maxRecDepth 20000 in
theorem gX2_readRace_X2_readItem : GoodIn wsX2_readRace (wsV RX2 25 RX2 yX2_readItem wsX2_readItem) := goodIn_app (goodIn_of _ (by decide +kernel)) ggX2_readRace_X2_readItem
theorem dX2_readRace_0 : decode cX2_readRace 0 = .ok (.aload_n 0, 1) := by decide +kernel
theorem dX2_readRace_1 : decode cX2_readRace 1 = .ok (.iconst 0, 1) := by decide +kernel
theorem dX2_readRace_2 : decode cX2_readRace 2 = .ok (.putfield 19, 3) := by decide +kernel
theorem dX2_readRace_5 : decode cX2_readRace 5 = .ok (.aload_n 0, 1) := by decide +kernel
theorem dX2_readRace_6 : decode cX2_readRace 6 = .ok (.invokevirtual 22, 3) := by decide +kernel
theorem dX2_readRace_9 : decode cX2_readRace 9 = .ok (.iconst 1, 1) := by decide +kernel
theorem dX2_readRace_10 : decode cX2_readRace 10 = .ok (.istore_n 2, 1) := by decide +kernel
theorem dX2_readRace_11 : decode cX2_readRace 11 = .ok (.iload_n 2, 1) := by decide +kernel
theorem dX2_readRace_12 : decode cX2_readRace 12 = .ok (.bipush 120, 2) := by decide +kernel
theorem dX2_readRace_14 : decode cX2_readRace 14 = .ok (.if_icmp .gt 44, 3) := by decide +kernel
theorem dX2_readRace_17 : decode cX2_readRace 17 = .ok (.aload_n 0, 1) := by decide +kernel
theorem dX2_readRace_18 : decode cX2_readRace 18 = .ok (.aload_n 1, 1) := by decide +kernel
theorem dX2_readRace_19 : decode cX2_readRace 19 = .ok (.invokevirtual 25, 3) := by decide +kernel
theorem dX2_readRace_22 : decode cX2_readRace 22 = .ok (.ifCond .ne 6, 3) := by decide +kernel
theorem dX2_readRace_25 : decode cX2_readRace 25 = .ok (.goto 33, 3) := by decide +kernel
theorem dX2_readRace_28 : decode cX2_readRace 28 = .ok (.aload_n 0, 1) := by decide +kernel
theorem dX2_readRace_29 : decode cX2_readRace 29 = .ok (.getfield 29, 3) := by decide +kernel
theorem dX2_readRace_32 : decode cX2_readRace 32 = .ok (.ifCond .ne 5, 3) := by decide +kernel
theorem dX2_readRace_35 : decode cX2_readRace 35 = .ok (.iload_n 2, 1) := by decide +kernel
theorem dX2_readRace_36 : decode cX2_readRace 36 = .ok (.ireturn, 1) := by decide +kernel
theorem dX2_readRace_37 : decode cX2_readRace 37 = .ok (.aload_n 0, 1) := by decide +kernel
theorem dX2_readRace_38 : decode cX2_readRace 38 = .ok (.getfield 29, 3) := by decide +kernel
theorem dX2_readRace_41 : decode cX2_readRace 41 = .ok (.iconst 3, 1) := by decide +kernel
theorem dX2_readRace_42 : decode cX2_readRace 42 = .ok (.if_icmp .eq 6, 3) := by decide +kernel
theorem dX2_readRace_45 : decode cX2_readRace 45 = .ok (.goto 13, 3) := by decide +kernel
theorem dX2_readRace_48 : decode cX2_readRace 48 = .ok (.aload_n 0, 1) := by decide +kernel
theorem dX2_readRace_49 : decode cX2_readRace 49 = .ok (.invokevirtual 22, 3) := by decide +kernel
theorem dX2_readRace_52 : decode cX2_readRace 52 = .ok (.iinc 2 1, 3) := by decide +kernel
theorem dX2_readRace_55 : decode cX2_readRace 55 = .ok (.goto (-44), 3) := by decide +kernel
theorem dX2_readRace_58 : decode cX2_readRace 58 = .ok (.iconst (-1), 1) := by decide +kernel
theorem dX2_readRace_59 : decode cX2_readRace 59 = .ok (.aload_n 0, 1) := by decide +kernel
theorem dX2_readRace_60 : decode cX2_readRace 60 = .ok (.getfield 32, 3) := by decide +kernel
theorem dX2_readRace_63 : decode cX2_readRace 63 = .ok (.isub, 1) := by decide +kernel
theorem dX2_readRace_64 : decode cX2_readRace 64 = .ok (.ireturn, 1) := by decide +kernel
set_option maxRecDepth 20000 in
theorem ggX2_readItem_X2_kindNamed : GoodIn wsX2_readItem wsX2_kindNamed := goodIn_r _ [6, 7, 8, 9, 10, 11, 12, 13, 5, 14, 15, 16, 17, 18, 19, 20, 21, 22, 23, 24, 25, 26, 27, 28, 29, 30, 31, 32, 33, 34, 35, 36, 37, 38, 39, 40, 41, 42, 43, 44, 45, 46, 47, 48, 49, 50, 51, 52, 53, 54, 55, 56, 57, 58, 59, 60, 61, 62, 63, 64, 65, 66, 67, 68, 69, 70, 71, 72, 144, 145, 146, 147, 148, 149] rfl (by decide +kernel)
set_option maxRecDepth 20000 in
theorem gX2_readItem_X2_kindNamed : GoodIn wsX2_readItem (wsV RX2 35 RX2 yX2_kindNamed wsX2_kindNamed) := goodIn_app (goodIn_of _ (by decide +kernel)) ggX2_readItem_X2_kindNamed
set_option maxRecDepth 20000 in
theorem ggX2_readItem_X2_readRunner : GoodIn wsX2_readItem wsX2_readRunner := goodIn_r _ [76, 77, 1, 78, 79, 80, 81, 82, 83, 84, 5, 85, 16, 17, 71, 15, 67, 68, 69, 70, 72, 86, 87, 88, 11, 12, 13, 14, 18, 19, 20, 21, 22, 23, 24, 25, 26, 27, 28, 29, 30, 31, 32, 33, 34, 35, 36, 37, 38, 39, 40, 41, 42, 43, 44, 45, 46, 47, 48, 49, 50, 51, 52, 53, 54, 55, 56, 57, 58, 59, 60, 61, 62, 63, 64, 65, 66, 89, 90, 91, 92, 93, 94, 95, 96, 97, 98, 99, 100, 101, 102, 103, 104, 105, 106, 107, 108, 109, 110, 111, 112, 113, 114, 144, 145, 146, 147, 148, 149, 129, 130, 131, 132, 133, 134, 135, 136, 137, 138, 139, 140, 141, 142, 143] rfl (by decide +kernel)
set_option maxRecDepth 20000 in
theorem gX2_readItem_X2_readRunner : GoodIn wsX2_readItem (wsV RX2 46 RX2 yX2_readRunner wsX2_readRunner) := goodIn_app (goodIn_of _ (by decide +kernel)) ggX2_readItem_X2_readRunner
set_option maxRecDepth 20000 in
theorem ggX2_readItem_X2_isWord : GoodIn wsX2_readItem wsX2_isWord := goodIn_r _ [14, 15, 16, 17, 18, 19, 20, 21, 22, 23, 24, 25, 26, 27, 28, 29, 30, 31, 32, 33, 34, 35, 36, 37, 38, 39, 40, 41, 42, 43, 44, 45, 46, 47, 48, 49, 50, 51, 52, 53, 54, 55, 56, 57, 58, 59, 60, 61, 62, 63, 64, 65, 66, 67, 68, 69, 5, 70, 71, 72, 144, 145, 146, 147, 148, 149] rfl (by decide +kernel)
set_option maxRecDepth 20000 in
theorem gX2_readItem_X2_isWord : GoodIn wsX2_readItem (wsV RX2 52 RX2 yX2_isWord wsX2_isWord) := goodIn_app (goodIn_of _ (by decide +kernel)) ggX2_readItem_X2_isWord
set_option maxRecDepth 20000 in
theorem ggX2_readItem_X2_readLength : GoodIn wsX2_readItem wsX2_readLength := goodIn_r _ [118, 77, 78, 89, 90, 91, 5, 92, 15, 82, 83, 84, 85, 16, 17, 71, 67, 68, 69, 70, 72, 86, 87, 88, 93, 94, 95, 96, 144, 145, 146, 147, 148, 149, 129, 130, 131, 132, 133, 134, 135, 136, 137, 138, 139, 140, 141, 142, 143] rfl (by decide +kernel)
set_option maxRecDepth 20000 in
theorem gX2_readItem_X2_readLength : GoodIn wsX2_readItem (wsV RX2 56 RX2 yX2_readLength wsX2_readLength) := goodIn_app (goodIn_of _ (by decide +kernel)) ggX2_readItem_X2_readLength
set_option maxRecDepth 20000 in
theorem ggX2_readItem_X2_readLeast : GoodIn wsX2_readItem wsX2_readLeast := goodIn_r _ [122, 77, 123, 89, 90, 91, 5, 92, 15, 82, 83, 84, 85, 16, 17, 71, 67, 68, 69, 70, 72, 86, 87, 88, 93, 94, 95, 96, 144, 145, 146, 147, 148, 149, 129, 130, 131, 132, 133, 134, 135, 136, 137, 138, 139, 140, 141, 142, 143] rfl (by decide +kernel)
set_option maxRecDepth 20000 in
theorem gX2_readItem_X2_readLeast : GoodIn wsX2_readItem (wsV RX2 61 RX2 yX2_readLeast wsX2_readLeast) := goodIn_app (goodIn_of _ (by decide +kernel)) ggX2_readItem_X2_readLeast
set_option maxRecDepth 20000 in
theorem ggX2_readItem_X2_readLaw : GoodIn wsX2_readItem wsX2_readLaw := goodIn_r _ [127, 77, 128, 89, 90, 91, 5, 92, 15, 82, 83, 84, 85, 16, 17, 71, 67, 68, 69, 70, 72, 86, 87, 88, 93, 94, 95, 96, 144, 145, 146, 147, 148, 149, 129, 130, 131, 132, 133, 134, 135, 136, 137, 138, 139, 140, 141, 142, 143] rfl (by decide +kernel)
set_option maxRecDepth 20000 in
theorem gX2_readItem_X2_readLaw : GoodIn wsX2_readItem (wsV RX2 66 RX2 yX2_readLaw wsX2_readLaw) := goodIn_app (goodIn_of _ (by decide +kernel)) ggX2_readItem_X2_readLaw
theorem dX2_readItem_0 : decode cX2_readItem 0 = .ok (.aload_n 0, 1) := by decide +kernel
theorem dX2_readItem_1 : decode cX2_readItem 1 = .ok (.invokevirtual 35, 3) := by decide +kernel
theorem dX2_readItem_4 : decode cX2_readItem 4 = .ok (.istore_n 2, 1) := by decide +kernel
theorem dX2_readItem_5 : decode cX2_readItem 5 = .ok (.iload_n 2, 1) := by decide +kernel
theorem dX2_readItem_6 : decode cX2_readItem 6 = .ok (.iconst (-1), 1) := by decide +kernel
theorem dX2_readItem_7 : decode cX2_readItem 7 = .ok (.if_icmp .eq 27, 3) := by decide +kernel
theorem dX2_readItem_10 : decode cX2_readItem 10 = .ok (.aload_n 1, 1) := by decide +kernel
theorem dX2_readItem_11 : decode cX2_readItem 11 = .ok (.getfield 41, 3) := by decide +kernel
theorem dX2_readItem_14 : decode cX2_readItem 14 = .ok (.bipush 9, 2) := by decide +kernel
theorem dX2_readItem_16 : decode cX2_readItem 16 = .ok (.if_icmp .ge 16, 3) := by decide +kernel
theorem dX2_readItem_19 : decode cX2_readItem 19 = .ok (.aload_n 0, 1) := by decide +kernel
theorem dX2_readItem_20 : decode cX2_readItem 20 = .ok (.aload_n 1, 1) := by decide +kernel
theorem dX2_readItem_21 : decode cX2_readItem 21 = .ok (.iload_n 2, 1) := by decide +kernel
theorem dX2_readItem_22 : decode cX2_readItem 22 = .ok (.invokevirtual 46, 3) := by decide +kernel
theorem dX2_readItem_25 : decode cX2_readItem 25 = .ok (.ifCond .eq 7, 3) := by decide +kernel
theorem dX2_readItem_28 : decode cX2_readItem 28 = .ok (.iconst 1, 1) := by decide +kernel
theorem dX2_readItem_29 : decode cX2_readItem 29 = .ok (.goto 4, 3) := by decide +kernel
theorem dX2_readItem_32 : decode cX2_readItem 32 = .ok (.iconst 0, 1) := by decide +kernel
theorem dX2_readItem_33 : decode cX2_readItem 33 = .ok (.ireturn, 1) := by decide +kernel
theorem dX2_readItem_34 : decode cX2_readItem 34 = .ok (.aload_n 0, 1) := by decide +kernel
theorem dX2_readItem_35 : decode cX2_readItem 35 = .ok (.ldc 50, 2) := by decide +kernel
theorem dX2_readItem_37 : decode cX2_readItem 37 = .ok (.invokevirtual 52, 3) := by decide +kernel
theorem dX2_readItem_40 : decode cX2_readItem 40 = .ok (.ifCond .eq 24, 3) := by decide +kernel
theorem dX2_readItem_43 : decode cX2_readItem 43 = .ok (.aload_n 1, 1) := by decide +kernel
theorem dX2_readItem_44 : decode cX2_readItem 44 = .ok (.getfield 41, 3) := by decide +kernel
theorem dX2_readItem_47 : decode cX2_readItem 47 = .ok (.ifCond .ne 15, 3) := by decide +kernel
theorem dX2_readItem_50 : decode cX2_readItem 50 = .ok (.aload_n 0, 1) := by decide +kernel
theorem dX2_readItem_51 : decode cX2_readItem 51 = .ok (.aload_n 1, 1) := by decide +kernel
theorem dX2_readItem_52 : decode cX2_readItem 52 = .ok (.invokevirtual 56, 3) := by decide +kernel
theorem dX2_readItem_55 : decode cX2_readItem 55 = .ok (.ifCond .eq 7, 3) := by decide +kernel
theorem dX2_readItem_58 : decode cX2_readItem 58 = .ok (.iconst 1, 1) := by decide +kernel
theorem dX2_readItem_59 : decode cX2_readItem 59 = .ok (.goto 4, 3) := by decide +kernel
theorem dX2_readItem_62 : decode cX2_readItem 62 = .ok (.iconst 0, 1) := by decide +kernel
theorem dX2_readItem_63 : decode cX2_readItem 63 = .ok (.ireturn, 1) := by decide +kernel
theorem dX2_readItem_64 : decode cX2_readItem 64 = .ok (.aload_n 0, 1) := by decide +kernel
theorem dX2_readItem_65 : decode cX2_readItem 65 = .ok (.ldc 59, 2) := by decide +kernel
theorem dX2_readItem_67 : decode cX2_readItem 67 = .ok (.invokevirtual 52, 3) := by decide +kernel
theorem dX2_readItem_70 : decode cX2_readItem 70 = .ok (.ifCond .eq 9, 3) := by decide +kernel
theorem dX2_readItem_73 : decode cX2_readItem 73 = .ok (.aload_n 0, 1) := by decide +kernel
theorem dX2_readItem_74 : decode cX2_readItem 74 = .ok (.aload_n 1, 1) := by decide +kernel
theorem dX2_readItem_75 : decode cX2_readItem 75 = .ok (.invokevirtual 61, 3) := by decide +kernel
theorem dX2_readItem_78 : decode cX2_readItem 78 = .ok (.ireturn, 1) := by decide +kernel
theorem dX2_readItem_79 : decode cX2_readItem 79 = .ok (.aload_n 0, 1) := by decide +kernel
theorem dX2_readItem_80 : decode cX2_readItem 80 = .ok (.ldc 64, 2) := by decide +kernel
theorem dX2_readItem_82 : decode cX2_readItem 82 = .ok (.invokevirtual 52, 3) := by decide +kernel
theorem dX2_readItem_85 : decode cX2_readItem 85 = .ok (.ifCond .eq 15, 3) := by decide +kernel
theorem dX2_readItem_88 : decode cX2_readItem 88 = .ok (.aload_n 0, 1) := by decide +kernel
theorem dX2_readItem_89 : decode cX2_readItem 89 = .ok (.aload_n 1, 1) := by decide +kernel
theorem dX2_readItem_90 : decode cX2_readItem 90 = .ok (.invokevirtual 66, 3) := by decide +kernel
theorem dX2_readItem_93 : decode cX2_readItem 93 = .ok (.ifCond .eq 7, 3) := by decide +kernel
theorem dX2_readItem_96 : decode cX2_readItem 96 = .ok (.iconst 1, 1) := by decide +kernel
theorem dX2_readItem_97 : decode cX2_readItem 97 = .ok (.goto 4, 3) := by decide +kernel
theorem dX2_readItem_100 : decode cX2_readItem 100 = .ok (.iconst 0, 1) := by decide +kernel
theorem dX2_readItem_101 : decode cX2_readItem 101 = .ok (.ireturn, 1) := by decide +kernel
set_option maxRecDepth 20000 in
theorem ggX2_readLength_X2_readNumberBehind : GoodIn wsX2_readLength wsX2_readNumberBehind := goodIn_r _ [7, 8, 1, 9, 10, 11, 6, 12, 13, 14, 15, 16, 17, 18, 19, 20, 21, 22, 23, 24, 25, 26, 27, 28, 29, 30, 31, 32, 33] rfl (by decide +kernel)
set_option maxRecDepth 20000 in
theorem gX2_readLength_X2_readNumberBehind : GoodIn wsX2_readLength (wsV RX2 69 RX2 yX2_readNumberBehind wsX2_readNumberBehind) := goodIn_app (goodIn_of _ (by decide +kernel)) ggX2_readLength_X2_readNumberBehind
theorem dX2_readLength_0 : decode cX2_readLength 0 = .ok (.aload_n 0, 1) := by decide +kernel
theorem dX2_readLength_1 : decode cX2_readLength 1 = .ok (.bipush 10, 2) := by decide +kernel
theorem dX2_readLength_3 : decode cX2_readLength 3 = .ok (.sipush 9999, 3) := by decide +kernel
theorem dX2_readLength_6 : decode cX2_readLength 6 = .ok (.invokevirtual 69, 3) := by decide +kernel
theorem dX2_readLength_9 : decode cX2_readLength 9 = .ok (.ifCond .ne 5, 3) := by decide +kernel
theorem dX2_readLength_12 : decode cX2_readLength 12 = .ok (.iconst 0, 1) := by decide +kernel
theorem dX2_readLength_13 : decode cX2_readLength 13 = .ok (.ireturn, 1) := by decide +kernel
theorem dX2_readLength_14 : decode cX2_readLength 14 = .ok (.aload_n 1, 1) := by decide +kernel
theorem dX2_readLength_15 : decode cX2_readLength 15 = .ok (.aload_n 0, 1) := by decide +kernel
theorem dX2_readLength_16 : decode cX2_readLength 16 = .ok (.getfield 73, 3) := by decide +kernel
theorem dX2_readLength_19 : decode cX2_readLength 19 = .ok (.putfield 76, 3) := by decide +kernel
theorem dX2_readLength_22 : decode cX2_readLength 22 = .ok (.iconst 1, 1) := by decide +kernel
theorem dX2_readLength_23 : decode cX2_readLength 23 = .ok (.ireturn, 1) := by decide +kernel
set_option maxRecDepth 20000 in
theorem ggX2_readLeast_X2_readNumberBehind : GoodIn wsX2_readLeast wsX2_readNumberBehind := goodIn_r _ [7, 8, 1, 9, 10, 11, 6, 12, 13, 14, 15, 16, 17, 18, 19, 20, 21, 22, 23, 24, 25, 26, 27, 28, 29, 30, 31, 32, 33] rfl (by decide +kernel)
set_option maxRecDepth 20000 in
theorem gX2_readLeast_X2_readNumberBehind : GoodIn wsX2_readLeast (wsV RX2 69 RX2 yX2_readNumberBehind wsX2_readNumberBehind) := goodIn_app (goodIn_of _ (by decide +kernel)) ggX2_readLeast_X2_readNumberBehind
theorem dX2_readLeast_0 : decode cX2_readLeast 0 = .ok (.aload_n 0, 1) := by decide +kernel
theorem dX2_readLeast_1 : decode cX2_readLeast 1 = .ok (.iconst 0, 1) := by decide +kernel
theorem dX2_readLeast_2 : decode cX2_readLeast 2 = .ok (.iconst 5, 1) := by decide +kernel
theorem dX2_readLeast_3 : decode cX2_readLeast 3 = .ok (.invokevirtual 69, 3) := by decide +kernel
theorem dX2_readLeast_6 : decode cX2_readLeast 6 = .ok (.ifCond .ne 5, 3) := by decide +kernel
theorem dX2_readLeast_9 : decode cX2_readLeast 9 = .ok (.iconst 0, 1) := by decide +kernel
theorem dX2_readLeast_10 : decode cX2_readLeast 10 = .ok (.ireturn, 1) := by decide +kernel
theorem dX2_readLeast_11 : decode cX2_readLeast 11 = .ok (.aload_n 1, 1) := by decide +kernel
theorem dX2_readLeast_12 : decode cX2_readLeast 12 = .ok (.aload_n 0, 1) := by decide +kernel
theorem dX2_readLeast_13 : decode cX2_readLeast 13 = .ok (.getfield 73, 3) := by decide +kernel
theorem dX2_readLeast_16 : decode cX2_readLeast 16 = .ok (.putfield 78, 3) := by decide +kernel
theorem dX2_readLeast_19 : decode cX2_readLeast 19 = .ok (.iconst 1, 1) := by decide +kernel
theorem dX2_readLeast_20 : decode cX2_readLeast 20 = .ok (.ireturn, 1) := by decide +kernel
set_option maxRecDepth 20000 in
theorem ggX2_readLaw_X2_readNumberBehind : GoodIn wsX2_readLaw wsX2_readNumberBehind := goodIn_r _ [7, 8, 1, 9, 10, 11, 6, 12, 13, 14, 15, 16, 17, 18, 19, 20, 21, 22, 23, 24, 25, 26, 27, 28, 29, 30, 31, 32, 33] rfl (by decide +kernel)
set_option maxRecDepth 20000 in
theorem gX2_readLaw_X2_readNumberBehind : GoodIn wsX2_readLaw (wsV RX2 69 RX2 yX2_readNumberBehind wsX2_readNumberBehind) := goodIn_app (goodIn_of _ (by decide +kernel)) ggX2_readLaw_X2_readNumberBehind
theorem dX2_readLaw_0 : decode cX2_readLaw 0 = .ok (.aload_n 0, 1) := by decide +kernel
theorem dX2_readLaw_1 : decode cX2_readLaw 1 = .ok (.iconst 0, 1) := by decide +kernel
theorem dX2_readLaw_2 : decode cX2_readLaw 2 = .ok (.iconst 3, 1) := by decide +kernel
theorem dX2_readLaw_3 : decode cX2_readLaw 3 = .ok (.invokevirtual 69, 3) := by decide +kernel
theorem dX2_readLaw_6 : decode cX2_readLaw 6 = .ok (.ifCond .ne 5, 3) := by decide +kernel
theorem dX2_readLaw_9 : decode cX2_readLaw 9 = .ok (.iconst 0, 1) := by decide +kernel
theorem dX2_readLaw_10 : decode cX2_readLaw 10 = .ok (.ireturn, 1) := by decide +kernel
theorem dX2_readLaw_11 : decode cX2_readLaw 11 = .ok (.aload_n 1, 1) := by decide +kernel
theorem dX2_readLaw_12 : decode cX2_readLaw 12 = .ok (.aload_n 0, 1) := by decide +kernel
theorem dX2_readLaw_13 : decode cX2_readLaw 13 = .ok (.getfield 73, 3) := by decide +kernel
theorem dX2_readLaw_16 : decode cX2_readLaw 16 = .ok (.putfield 80, 3) := by decide +kernel
theorem dX2_readLaw_19 : decode cX2_readLaw 19 = .ok (.iconst 1, 1) := by decide +kernel
theorem dX2_readLaw_20 : decode cX2_readLaw 20 = .ok (.ireturn, 1) := by decide +kernel
set_option maxRecDepth 20000 in
theorem ggX2_readRunner_X2_next : GoodIn wsX2_readRunner wsX2_next := goodIn_r _ [11, 12, 13, 14, 15, 16, 17, 18, 10, 19, 20, 21, 22, 23, 103, 104, 105, 106, 107, 108] rfl (by decide +kernel)
set_option maxRecDepth 20000 in
theorem gX2_readRunner_X2_next : GoodIn wsX2_readRunner (wsV RX2 22 RX2 yX2_next wsX2_next) := goodIn_app (goodIn_of _ (by decide +kernel)) ggX2_readRunner_X2_next
set_option maxRecDepth 20000 in
theorem ggX2_readRunner_X2_isWord : GoodIn wsX2_readRunner wsX2_isWord := goodIn_r _ [27, 15, 12, 13, 28, 29, 30, 31, 32, 33, 34, 35, 36, 37, 38, 39, 40, 41, 42, 43, 44, 45, 46, 47, 48, 49, 50, 51, 52, 53, 54, 55, 56, 57, 58, 59, 60, 61, 62, 63, 64, 65, 66, 67, 68, 69, 70, 71, 72, 73, 74, 75, 76, 16, 17, 18, 10, 19, 14, 20, 103, 104, 105, 106, 107, 108] rfl (by decide +kernel)
set_option maxRecDepth 20000 in
theorem gX2_readRunner_X2_isWord : GoodIn wsX2_readRunner (wsV RX2 52 RX2 yX2_isWord wsX2_isWord) := goodIn_app (goodIn_of _ (by decide +kernel)) ggX2_readRunner_X2_isWord
set_option maxRecDepth 20000 in
theorem ggX2_readRunner_X2_readNumberBehind : GoodIn wsX2_readRunner wsX2_readNumberBehind := goodIn_r _ [80, 15, 1, 7, 8, 9, 10, 11, 12, 13, 14, 16, 17, 18, 19, 20, 21, 22, 23, 81, 82, 83, 84, 103, 104, 105, 106, 107, 108] rfl (by decide +kernel)
set_option maxRecDepth 20000 in
theorem gX2_readRunner_X2_readNumberBehind : GoodIn wsX2_readRunner (wsV RX2 69 RX2 yX2_readNumberBehind wsX2_readNumberBehind) := goodIn_app (goodIn_of _ (by decide +kernel)) ggX2_readRunner_X2_readNumberBehind
set_option maxRecDepth 20000 in
theorem ggX2_readRunner_X3_add : GoodIn wsX2_readRunner wsX3_add := goodIn_r _ [89, 90, 91, 92, 93, 94, 95, 96, 97, 98, 109, 110, 111, 112, 113, 114, 115, 116, 117, 118, 119, 120, 121, 122, 123] rfl (by decide +kernel)
set_option maxRecDepth 20000 in
theorem gX2_readRunner_X3_add : GoodIn wsX2_readRunner (wsV RX2 90 RX3 yX3_add wsX3_add) := goodIn_app (goodIn_of _ (by decide +kernel)) ggX2_readRunner_X3_add
set_option maxRecDepth 20000 in
theorem ggX2_readRunner_X3_has : GoodIn wsX2_readRunner wsX3_has := goodIn_r _ [102, 90, 109, 110, 111, 112, 113, 114, 115, 116, 117, 118, 119, 120, 121, 122, 123] rfl (by decide +kernel)
set_option maxRecDepth 20000 in
theorem gX2_readRunner_X3_has : GoodIn wsX2_readRunner (wsV RX2 94 RX3 yX3_has wsX3_has) := goodIn_app (goodIn_of _ (by decide +kernel)) ggX2_readRunner_X3_has
theorem dX2_readRunner_0 : decode cX2_readRunner 0 = .ok (.aload_n 0, 1) := by decide +kernel
theorem dX2_readRunner_1 : decode cX2_readRunner 1 = .ok (.invokevirtual 22, 3) := by decide +kernel
theorem dX2_readRunner_4 : decode cX2_readRunner 4 = .ok (.aload_n 0, 1) := by decide +kernel
theorem dX2_readRunner_5 : decode cX2_readRunner 5 = .ok (.ldc 82, 2) := by decide +kernel
theorem dX2_readRunner_7 : decode cX2_readRunner 7 = .ok (.invokevirtual 52, 3) := by decide +kernel
theorem dX2_readRunner_10 : decode cX2_readRunner 10 = .ok (.ifCond .eq 13, 3) := by decide +kernel
theorem dX2_readRunner_13 : decode cX2_readRunner 13 = .ok (.aload_n 0, 1) := by decide +kernel
theorem dX2_readRunner_14 : decode cX2_readRunner 14 = .ok (.iconst 1, 1) := by decide +kernel
theorem dX2_readRunner_15 : decode cX2_readRunner 15 = .ok (.bipush 12, 2) := by decide +kernel
theorem dX2_readRunner_17 : decode cX2_readRunner 17 = .ok (.invokevirtual 69, 3) := by decide +kernel
theorem dX2_readRunner_20 : decode cX2_readRunner 20 = .ok (.ifCond .ne 5, 3) := by decide +kernel
theorem dX2_readRunner_23 : decode cX2_readRunner 23 = .ok (.iconst 0, 1) := by decide +kernel
theorem dX2_readRunner_24 : decode cX2_readRunner 24 = .ok (.ireturn, 1) := by decide +kernel
theorem dX2_readRunner_25 : decode cX2_readRunner 25 = .ok (.aload_n 0, 1) := by decide +kernel
theorem dX2_readRunner_26 : decode cX2_readRunner 26 = .ok (.getfield 73, 3) := by decide +kernel
theorem dX2_readRunner_29 : decode cX2_readRunner 29 = .ok (.istore_n 3, 1) := by decide +kernel
theorem dX2_readRunner_30 : decode cX2_readRunner 30 = .ok (.aload_n 0, 1) := by decide +kernel
theorem dX2_readRunner_31 : decode cX2_readRunner 31 = .ok (.bipush 100, 2) := by decide +kernel
theorem dX2_readRunner_33 : decode cX2_readRunner 33 = .ok (.putfield 73, 3) := by decide +kernel
theorem dX2_readRunner_36 : decode cX2_readRunner 36 = .ok (.aload_n 0, 1) := by decide +kernel
theorem dX2_readRunner_37 : decode cX2_readRunner 37 = .ok (.ldc 84, 2) := by decide +kernel
theorem dX2_readRunner_39 : decode cX2_readRunner 39 = .ok (.invokevirtual 52, 3) := by decide +kernel
theorem dX2_readRunner_42 : decode cX2_readRunner 42 = .ok (.ifCond .eq 16, 3) := by decide +kernel
theorem dX2_readRunner_45 : decode cX2_readRunner 45 = .ok (.aload_n 0, 1) := by decide +kernel
theorem dX2_readRunner_46 : decode cX2_readRunner 46 = .ok (.iconst 0, 1) := by decide +kernel
theorem dX2_readRunner_47 : decode cX2_readRunner 47 = .ok (.sipush 999, 3) := by decide +kernel
theorem dX2_readRunner_50 : decode cX2_readRunner 50 = .ok (.invokevirtual 69, 3) := by decide +kernel
theorem dX2_readRunner_53 : decode cX2_readRunner 53 = .ok (.ifCond .ne 5, 3) := by decide +kernel
theorem dX2_readRunner_56 : decode cX2_readRunner 56 = .ok (.iconst 0, 1) := by decide +kernel
theorem dX2_readRunner_57 : decode cX2_readRunner 57 = .ok (.ireturn, 1) := by decide +kernel
theorem dX2_readRunner_58 : decode cX2_readRunner 58 = .ok (.aload_n 0, 1) := by decide +kernel
theorem dX2_readRunner_59 : decode cX2_readRunner 59 = .ok (.getfield 73, 3) := by decide +kernel
theorem dX2_readRunner_62 : decode cX2_readRunner 62 = .ok (.istore 4, 2) := by decide +kernel
theorem dX2_readRunner_64 : decode cX2_readRunner 64 = .ok (.aload_n 0, 1) := by decide +kernel
theorem dX2_readRunner_65 : decode cX2_readRunner 65 = .ok (.iconst (-1), 1) := by decide +kernel
theorem dX2_readRunner_66 : decode cX2_readRunner 66 = .ok (.putfield 73, 3) := by decide +kernel
theorem dX2_readRunner_69 : decode cX2_readRunner 69 = .ok (.aload_n 0, 1) := by decide +kernel
theorem dX2_readRunner_70 : decode cX2_readRunner 70 = .ok (.ldc 86, 2) := by decide +kernel
theorem dX2_readRunner_72 : decode cX2_readRunner 72 = .ok (.invokevirtual 52, 3) := by decide +kernel
theorem dX2_readRunner_75 : decode cX2_readRunner 75 = .ok (.ifCond .eq 19, 3) := by decide +kernel
theorem dX2_readRunner_78 : decode cX2_readRunner 78 = .ok (.aload_n 0, 1) := by decide +kernel
theorem dX2_readRunner_79 : decode cX2_readRunner 79 = .ok (.iconst 0, 1) := by decide +kernel
theorem dX2_readRunner_80 : decode cX2_readRunner 80 = .ok (.aload_n 1, 1) := by decide +kernel
theorem dX2_readRunner_81 : decode cX2_readRunner 81 = .ok (.getfield 41, 3) := by decide +kernel
theorem dX2_readRunner_84 : decode cX2_readRunner 84 = .ok (.iconst 1, 1) := by decide +kernel
theorem dX2_readRunner_85 : decode cX2_readRunner 85 = .ok (.isub, 1) := by decide +kernel
theorem dX2_readRunner_86 : decode cX2_readRunner 86 = .ok (.invokevirtual 69, 3) := by decide +kernel
theorem dX2_readRunner_89 : decode cX2_readRunner 89 = .ok (.ifCond .ne 5, 3) := by decide +kernel
theorem dX2_readRunner_92 : decode cX2_readRunner 92 = .ok (.iconst 0, 1) := by decide +kernel
theorem dX2_readRunner_93 : decode cX2_readRunner 93 = .ok (.ireturn, 1) := by decide +kernel
theorem dX2_readRunner_94 : decode cX2_readRunner 94 = .ok (.aload_n 0, 1) := by decide +kernel
theorem dX2_readRunner_95 : decode cX2_readRunner 95 = .ok (.getfield 73, 3) := by decide +kernel
theorem dX2_readRunner_98 : decode cX2_readRunner 98 = .ok (.istore 5, 2) := by decide +kernel
theorem dX2_readRunner_100 : decode cX2_readRunner 100 = .ok (.aload_n 0, 1) := by decide +kernel
theorem dX2_readRunner_101 : decode cX2_readRunner 101 = .ok (.iconst 0, 1) := by decide +kernel
theorem dX2_readRunner_102 : decode cX2_readRunner 102 = .ok (.putfield 73, 3) := by decide +kernel
theorem dX2_readRunner_105 : decode cX2_readRunner 105 = .ok (.aload_n 0, 1) := by decide +kernel
theorem dX2_readRunner_106 : decode cX2_readRunner 106 = .ok (.ldc 88, 2) := by decide +kernel
theorem dX2_readRunner_108 : decode cX2_readRunner 108 = .ok (.invokevirtual 52, 3) := by decide +kernel
theorem dX2_readRunner_111 : decode cX2_readRunner 111 = .ok (.ifCond .eq 19, 3) := by decide +kernel
theorem dX2_readRunner_114 : decode cX2_readRunner 114 = .ok (.aload_n 0, 1) := by decide +kernel
theorem dX2_readRunner_115 : decode cX2_readRunner 115 = .ok (.iconst 0, 1) := by decide +kernel
theorem dX2_readRunner_116 : decode cX2_readRunner 116 = .ok (.aload_n 1, 1) := by decide +kernel
theorem dX2_readRunner_117 : decode cX2_readRunner 117 = .ok (.getfield 76, 3) := by decide +kernel
theorem dX2_readRunner_120 : decode cX2_readRunner 120 = .ok (.iconst 1, 1) := by decide +kernel
theorem dX2_readRunner_121 : decode cX2_readRunner 121 = .ok (.isub, 1) := by decide +kernel
theorem dX2_readRunner_122 : decode cX2_readRunner 122 = .ok (.invokevirtual 69, 3) := by decide +kernel
theorem dX2_readRunner_125 : decode cX2_readRunner 125 = .ok (.ifCond .ne 5, 3) := by decide +kernel
theorem dX2_readRunner_128 : decode cX2_readRunner 128 = .ok (.iconst 0, 1) := by decide +kernel
theorem dX2_readRunner_129 : decode cX2_readRunner 129 = .ok (.ireturn, 1) := by decide +kernel
theorem dX2_readRunner_130 : decode cX2_readRunner 130 = .ok (.aload_n 1, 1) := by decide +kernel
theorem dX2_readRunner_131 : decode cX2_readRunner 131 = .ok (.iload_n 2, 1) := by decide +kernel
theorem dX2_readRunner_132 : decode cX2_readRunner 132 = .ok (.iload_n 3, 1) := by decide +kernel
theorem dX2_readRunner_133 : decode cX2_readRunner 133 = .ok (.iload 4, 2) := by decide +kernel
theorem dX2_readRunner_135 : decode cX2_readRunner 135 = .ok (.invokevirtual 90, 3) := by decide +kernel
theorem dX2_readRunner_138 : decode cX2_readRunner 138 = .ok (.istore 6, 2) := by decide +kernel
theorem dX2_readRunner_140 : decode cX2_readRunner 140 = .ok (.aload_n 1, 1) := by decide +kernel
theorem dX2_readRunner_141 : decode cX2_readRunner 141 = .ok (.iload 6, 2) := by decide +kernel
theorem dX2_readRunner_143 : decode cX2_readRunner 143 = .ok (.invokevirtual 94, 3) := by decide +kernel
theorem dX2_readRunner_146 : decode cX2_readRunner 146 = .ok (.ifCond .eq 34, 3) := by decide +kernel
theorem dX2_readRunner_149 : decode cX2_readRunner 149 = .ok (.aload_n 1, 1) := by decide +kernel
theorem dX2_readRunner_150 : decode cX2_readRunner 150 = .ok (.getfield 98, 3) := by decide +kernel
theorem dX2_readRunner_153 : decode cX2_readRunner 153 = .ok (.iload 6, 2) := by decide +kernel
theorem dX2_readRunner_155 : decode cX2_readRunner 155 = .ok (.iload 5, 2) := by decide +kernel
theorem dX2_readRunner_157 : decode cX2_readRunner 157 = .ok (.iastore, 1) := by decide +kernel
theorem dX2_readRunner_158 : decode cX2_readRunner 158 = .ok (.aload_n 1, 1) := by decide +kernel
theorem dX2_readRunner_159 : decode cX2_readRunner 159 = .ok (.getfield 102, 3) := by decide +kernel
theorem dX2_readRunner_162 : decode cX2_readRunner 162 = .ok (.iload 6, 2) := by decide +kernel
theorem dX2_readRunner_164 : decode cX2_readRunner 164 = .ok (.aload_n 0, 1) := by decide +kernel
theorem dX2_readRunner_165 : decode cX2_readRunner 165 = .ok (.getfield 73, 3) := by decide +kernel
theorem dX2_readRunner_168 : decode cX2_readRunner 168 = .ok (.iastore, 1) := by decide +kernel
theorem dX2_readRunner_169 : decode cX2_readRunner 169 = .ok (.aload_n 1, 1) := by decide +kernel
theorem dX2_readRunner_170 : decode cX2_readRunner 170 = .ok (.getfield 105, 3) := by decide +kernel
theorem dX2_readRunner_173 : decode cX2_readRunner 173 = .ok (.iload 6, 2) := by decide +kernel
theorem dX2_readRunner_175 : decode cX2_readRunner 175 = .ok (.aload_n 0, 1) := by decide +kernel
theorem dX2_readRunner_176 : decode cX2_readRunner 176 = .ok (.getfield 73, 3) := by decide +kernel
theorem dX2_readRunner_179 : decode cX2_readRunner 179 = .ok (.iastore, 1) := by decide +kernel
theorem dX2_readRunner_180 : decode cX2_readRunner 180 = .ok (.iconst 1, 1) := by decide +kernel
theorem dX2_readRunner_181 : decode cX2_readRunner 181 = .ok (.ireturn, 1) := by decide +kernel
set_option maxRecDepth 20000 in
theorem ggX2_readNumberBehind_X2_next : GoodIn wsX2_readNumberBehind wsX2_next := goodIn_r _ [7, 8, 9, 10, 1, 11, 12, 13, 6, 14, 15, 16, 17, 18, 23, 24, 25, 26, 27, 28] rfl (by decide +kernel)
set_option maxRecDepth 20000 in
theorem gX2_readNumberBehind_X2_next : GoodIn wsX2_readNumberBehind (wsV RX2 22 RX2 yX2_next wsX2_next) := goodIn_app (goodIn_of _ (by decide +kernel)) ggX2_readNumberBehind_X2_next
set_option maxRecDepth 20000 in
theorem ggX2_readNumberBehind_X2_numberHere : GoodIn wsX2_readNumberBehind wsX2_numberHere := goodIn_r _ [22, 9, 8, 11, 12, 13, 6, 14, 10, 15, 23, 24, 25, 26, 27, 28] rfl (by decide +kernel)
set_option maxRecDepth 20000 in
theorem gX2_readNumberBehind_X2_numberHere : GoodIn wsX2_readNumberBehind (wsV RX2 108 RX2 yX2_numberHere wsX2_numberHere) := goodIn_app (goodIn_of _ (by decide +kernel)) ggX2_readNumberBehind_X2_numberHere
theorem dX2_readNumberBehind_0 : decode cX2_readNumberBehind 0 = .ok (.aload_n 0, 1) := by decide +kernel
theorem dX2_readNumberBehind_1 : decode cX2_readNumberBehind 1 = .ok (.invokevirtual 22, 3) := by decide +kernel
theorem dX2_readNumberBehind_4 : decode cX2_readNumberBehind 4 = .ok (.aload_n 0, 1) := by decide +kernel
theorem dX2_readNumberBehind_5 : decode cX2_readNumberBehind 5 = .ok (.getfield 29, 3) := by decide +kernel
theorem dX2_readNumberBehind_8 : decode cX2_readNumberBehind 8 = .ok (.iconst 2, 1) := by decide +kernel
theorem dX2_readNumberBehind_9 : decode cX2_readNumberBehind 9 = .ok (.if_icmp .eq 5, 3) := by decide +kernel
theorem dX2_readNumberBehind_12 : decode cX2_readNumberBehind 12 = .ok (.iconst 0, 1) := by decide +kernel
theorem dX2_readNumberBehind_13 : decode cX2_readNumberBehind 13 = .ok (.ireturn, 1) := by decide +kernel
theorem dX2_readNumberBehind_14 : decode cX2_readNumberBehind 14 = .ok (.aload_n 0, 1) := by decide +kernel
theorem dX2_readNumberBehind_15 : decode cX2_readNumberBehind 15 = .ok (.aload_n 0, 1) := by decide +kernel
theorem dX2_readNumberBehind_16 : decode cX2_readNumberBehind 16 = .ok (.invokevirtual 108, 3) := by decide +kernel
theorem dX2_readNumberBehind_19 : decode cX2_readNumberBehind 19 = .ok (.putfield 73, 3) := by decide +kernel
theorem dX2_readNumberBehind_22 : decode cX2_readNumberBehind 22 = .ok (.aload_n 0, 1) := by decide +kernel
theorem dX2_readNumberBehind_23 : decode cX2_readNumberBehind 23 = .ok (.getfield 73, 3) := by decide +kernel
theorem dX2_readNumberBehind_26 : decode cX2_readNumberBehind 26 = .ok (.iload_n 1, 1) := by decide +kernel
theorem dX2_readNumberBehind_27 : decode cX2_readNumberBehind 27 = .ok (.if_icmp .lt 11, 3) := by decide +kernel
theorem dX2_readNumberBehind_30 : decode cX2_readNumberBehind 30 = .ok (.aload_n 0, 1) := by decide +kernel
theorem dX2_readNumberBehind_31 : decode cX2_readNumberBehind 31 = .ok (.getfield 73, 3) := by decide +kernel
theorem dX2_readNumberBehind_34 : decode cX2_readNumberBehind 34 = .ok (.iload_n 2, 1) := by decide +kernel
theorem dX2_readNumberBehind_35 : decode cX2_readNumberBehind 35 = .ok (.if_icmp .le 5, 3) := by decide +kernel
theorem dX2_readNumberBehind_38 : decode cX2_readNumberBehind 38 = .ok (.iconst 0, 1) := by decide +kernel
theorem dX2_readNumberBehind_39 : decode cX2_readNumberBehind 39 = .ok (.ireturn, 1) := by decide +kernel
theorem dX2_readNumberBehind_40 : decode cX2_readNumberBehind 40 = .ok (.aload_n 0, 1) := by decide +kernel
theorem dX2_readNumberBehind_41 : decode cX2_readNumberBehind 41 = .ok (.invokevirtual 22, 3) := by decide +kernel
theorem dX2_readNumberBehind_44 : decode cX2_readNumberBehind 44 = .ok (.iconst 1, 1) := by decide +kernel
theorem dX2_readNumberBehind_45 : decode cX2_readNumberBehind 45 = .ok (.ireturn, 1) := by decide +kernel
set_option maxRecDepth 20000 in
theorem ggX2_numberHere_X2_byteAt : GoodIn wsX2_numberHere wsX2_byteAt := goodIn_r _ [7, 8, 9, 10, 11, 12, 13, 14, 15] rfl (by decide +kernel)
set_option maxRecDepth 20000 in
theorem gX2_numberHere_X2_byteAt : GoodIn wsX2_numberHere (wsV RX2 111 RX2 yX2_byteAt wsX2_byteAt) := goodIn_app (goodIn_of _ (by decide +kernel)) ggX2_numberHere_X2_byteAt
theorem dX2_numberHere_0 : decode cX2_numberHere 0 = .ok (.iconst 0, 1) := by decide +kernel
theorem dX2_numberHere_1 : decode cX2_numberHere 1 = .ok (.istore_n 1, 1) := by decide +kernel
theorem dX2_numberHere_2 : decode cX2_numberHere 2 = .ok (.aload_n 0, 1) := by decide +kernel
theorem dX2_numberHere_3 : decode cX2_numberHere 3 = .ok (.getfield 32, 3) := by decide +kernel
theorem dX2_numberHere_6 : decode cX2_numberHere 6 = .ok (.istore_n 2, 1) := by decide +kernel
theorem dX2_numberHere_7 : decode cX2_numberHere 7 = .ok (.iload_n 2, 1) := by decide +kernel
theorem dX2_numberHere_8 : decode cX2_numberHere 8 = .ok (.aload_n 0, 1) := by decide +kernel
theorem dX2_numberHere_9 : decode cX2_numberHere 9 = .ok (.getfield 19, 3) := by decide +kernel
theorem dX2_numberHere_12 : decode cX2_numberHere 12 = .ok (.if_icmp .ge 30, 3) := by decide +kernel
theorem dX2_numberHere_15 : decode cX2_numberHere 15 = .ok (.iload_n 1, 1) := by decide +kernel
theorem dX2_numberHere_16 : decode cX2_numberHere 16 = .ok (.sipush 9999, 3) := by decide +kernel
theorem dX2_numberHere_19 : decode cX2_numberHere 19 = .ok (.if_icmp .gt 23, 3) := by decide +kernel
theorem dX2_numberHere_22 : decode cX2_numberHere 22 = .ok (.bipush 10, 2) := by decide +kernel
theorem dX2_numberHere_24 : decode cX2_numberHere 24 = .ok (.iload_n 1, 1) := by decide +kernel
theorem dX2_numberHere_25 : decode cX2_numberHere 25 = .ok (.imul, 1) := by decide +kernel
theorem dX2_numberHere_26 : decode cX2_numberHere 26 = .ok (.aload_n 0, 1) := by decide +kernel
theorem dX2_numberHere_27 : decode cX2_numberHere 27 = .ok (.iload_n 2, 1) := by decide +kernel
theorem dX2_numberHere_28 : decode cX2_numberHere 28 = .ok (.invokevirtual 111, 3) := by decide +kernel
theorem dX2_numberHere_31 : decode cX2_numberHere 31 = .ok (.iadd, 1) := by decide +kernel
theorem dX2_numberHere_32 : decode cX2_numberHere 32 = .ok (.bipush 48, 2) := by decide +kernel
theorem dX2_numberHere_34 : decode cX2_numberHere 34 = .ok (.isub, 1) := by decide +kernel
theorem dX2_numberHere_35 : decode cX2_numberHere 35 = .ok (.istore_n 1, 1) := by decide +kernel
theorem dX2_numberHere_36 : decode cX2_numberHere 36 = .ok (.iinc 2 1, 3) := by decide +kernel
theorem dX2_numberHere_39 : decode cX2_numberHere 39 = .ok (.goto (-32), 3) := by decide +kernel
theorem dX2_numberHere_42 : decode cX2_numberHere 42 = .ok (.iload_n 1, 1) := by decide +kernel
theorem dX2_numberHere_43 : decode cX2_numberHere 43 = .ok (.ireturn, 1) := by decide +kernel
set_option maxRecDepth 20000 in
theorem ggX2_kindNamed_X0_name : GoodIn wsX2_kindNamed wsX0_name := goodIn_r _ [4] rfl (by decide +kernel)
set_option maxRecDepth 20000 in
theorem gX2_kindNamed_X0_name : GoodIn wsX2_kindNamed (va_wsS RX2 115 yX0_name wsX0_name) := goodIn_app (goodIn_of _ (by decide +kernel)) ggX2_kindNamed_X0_name
set_option maxRecDepth 20000 in
theorem ggX2_kindNamed_X2_isWord : GoodIn wsX2_kindNamed wsX2_isWord := goodIn_r _ [9, 10, 11, 12, 13, 14, 15, 16, 17, 18, 19, 20, 21, 22, 23, 24, 25, 26, 27, 28, 29, 30, 31, 32, 33, 34, 35, 36, 37, 38, 39, 40, 41, 42, 43, 44, 45, 46, 47, 48, 49, 50, 51, 52, 53, 54, 55, 56, 57, 58, 59, 60, 61, 62, 63, 64, 8, 65, 66, 67, 68, 69, 70, 71, 72, 73] rfl (by decide +kernel)
set_option maxRecDepth 20000 in
theorem gX2_kindNamed_X2_isWord : GoodIn wsX2_kindNamed (wsV RX2 52 RX2 yX2_isWord wsX2_isWord) := goodIn_app (goodIn_of _ (by decide +kernel)) ggX2_kindNamed_X2_isWord
theorem dX2_kindNamed_0 : decode cX2_kindNamed 0 = .ok (.iconst 0, 1) := by decide +kernel
theorem dX2_kindNamed_1 : decode cX2_kindNamed 1 = .ok (.istore_n 1, 1) := by decide +kernel
theorem dX2_kindNamed_2 : decode cX2_kindNamed 2 = .ok (.iload_n 1, 1) := by decide +kernel
theorem dX2_kindNamed_3 : decode cX2_kindNamed 3 = .ok (.bipush 6, 2) := by decide +kernel
theorem dX2_kindNamed_5 : decode cX2_kindNamed 5 = .ok (.if_icmp .ge 22, 3) := by decide +kernel
theorem dX2_kindNamed_8 : decode cX2_kindNamed 8 = .ok (.aload_n 0, 1) := by decide +kernel
theorem dX2_kindNamed_9 : decode cX2_kindNamed 9 = .ok (.iload_n 1, 1) := by decide +kernel
theorem dX2_kindNamed_10 : decode cX2_kindNamed 10 = .ok (.invokestatic 115, 3) := by decide +kernel
theorem dX2_kindNamed_13 : decode cX2_kindNamed 13 = .ok (.invokevirtual 52, 3) := by decide +kernel
theorem dX2_kindNamed_16 : decode cX2_kindNamed 16 = .ok (.ifCond .eq 5, 3) := by decide +kernel
theorem dX2_kindNamed_19 : decode cX2_kindNamed 19 = .ok (.iload_n 1, 1) := by decide +kernel
theorem dX2_kindNamed_20 : decode cX2_kindNamed 20 = .ok (.ireturn, 1) := by decide +kernel
theorem dX2_kindNamed_21 : decode cX2_kindNamed 21 = .ok (.iinc 1 1, 3) := by decide +kernel
theorem dX2_kindNamed_24 : decode cX2_kindNamed 24 = .ok (.goto (-22), 3) := by decide +kernel
theorem dX2_kindNamed_27 : decode cX2_kindNamed 27 = .ok (.iconst (-1), 1) := by decide +kernel
theorem dX2_kindNamed_28 : decode cX2_kindNamed 28 = .ok (.ireturn, 1) := by decide +kernel
set_option maxRecDepth 20000 in
theorem ggX2_isWord_J0_length_8abf5 : GoodIn wsX2_isWord wsJ0_length_8abf5 := goodIn_r _ [8, 9, 10, 11, 12, 7, 13, 14, 15] rfl (by decide +kernel)
set_option maxRecDepth 20000 in
theorem gX2_isWord_J0_length_8abf5 : GoodIn wsX2_isWord (wsV RX2 119 RJ0 yJ0_length_8abf5 wsJ0_length_8abf5) := goodIn_app (goodIn_of _ (by decide +kernel)) ggX2_isWord_J0_length_8abf5
set_option maxRecDepth 20000 in
theorem ggX2_isWord_J0_charAt_5068e : GoodIn wsX2_isWord wsJ0_charAt_5068e := goodIn_r _ [19, 9, 20, 21, 22, 7, 23, 14, 15, 24, 25, 26, 27, 28, 29, 30, 31, 32, 33, 34, 35, 36, 37, 38, 39, 40, 41, 42, 43, 44, 45, 46, 47, 48, 49, 50, 51, 52] rfl (by decide +kernel)
set_option maxRecDepth 20000 in
theorem gX2_isWord_J0_charAt_5068e : GoodIn wsX2_isWord (wsV RX2 123 RJ0 yJ0_charAt_5068e wsJ0_charAt_5068e) := goodIn_app (goodIn_of _ (by decide +kernel)) ggX2_isWord_J0_charAt_5068e
set_option maxRecDepth 20000 in
theorem ggX2_isWord_X2_byteAt : GoodIn wsX2_isWord wsX2_byteAt := goodIn_r _ [57, 58, 59, 60, 61, 62, 63, 64, 65] rfl (by decide +kernel)
set_option maxRecDepth 20000 in
theorem gX2_isWord_X2_byteAt : GoodIn wsX2_isWord (wsV RX2 111 RX2 yX2_byteAt wsX2_byteAt) := goodIn_app (goodIn_of _ (by decide +kernel)) ggX2_isWord_X2_byteAt
theorem dX2_isWord_0 : decode cX2_isWord 0 = .ok (.aload_n 0, 1) := by decide +kernel
theorem dX2_isWord_1 : decode cX2_isWord 1 = .ok (.getfield 29, 3) := by decide +kernel
theorem dX2_isWord_4 : decode cX2_isWord 4 = .ok (.iconst 1, 1) := by decide +kernel
theorem dX2_isWord_5 : decode cX2_isWord 5 = .ok (.if_icmp .ne 19, 3) := by decide +kernel
theorem dX2_isWord_8 : decode cX2_isWord 8 = .ok (.aload_n 1, 1) := by decide +kernel
theorem dX2_isWord_9 : decode cX2_isWord 9 = .ok (.invokevirtual 119, 3) := by decide +kernel
theorem dX2_isWord_12 : decode cX2_isWord 12 = .ok (.aload_n 0, 1) := by decide +kernel
theorem dX2_isWord_13 : decode cX2_isWord 13 = .ok (.getfield 19, 3) := by decide +kernel
theorem dX2_isWord_16 : decode cX2_isWord 16 = .ok (.aload_n 0, 1) := by decide +kernel
theorem dX2_isWord_17 : decode cX2_isWord 17 = .ok (.getfield 32, 3) := by decide +kernel
theorem dX2_isWord_20 : decode cX2_isWord 20 = .ok (.isub, 1) := by decide +kernel
theorem dX2_isWord_21 : decode cX2_isWord 21 = .ok (.if_icmp .eq 5, 3) := by decide +kernel
theorem dX2_isWord_24 : decode cX2_isWord 24 = .ok (.iconst 0, 1) := by decide +kernel
theorem dX2_isWord_25 : decode cX2_isWord 25 = .ok (.ireturn, 1) := by decide +kernel
theorem dX2_isWord_26 : decode cX2_isWord 26 = .ok (.iconst 0, 1) := by decide +kernel
theorem dX2_isWord_27 : decode cX2_isWord 27 = .ok (.istore_n 2, 1) := by decide +kernel
theorem dX2_isWord_28 : decode cX2_isWord 28 = .ok (.iload_n 2, 1) := by decide +kernel
theorem dX2_isWord_29 : decode cX2_isWord 29 = .ok (.aload_n 1, 1) := by decide +kernel
theorem dX2_isWord_30 : decode cX2_isWord 30 = .ok (.invokevirtual 119, 3) := by decide +kernel
theorem dX2_isWord_33 : decode cX2_isWord 33 = .ok (.if_icmp .ge 29, 3) := by decide +kernel
theorem dX2_isWord_36 : decode cX2_isWord 36 = .ok (.aload_n 1, 1) := by decide +kernel
theorem dX2_isWord_37 : decode cX2_isWord 37 = .ok (.iload_n 2, 1) := by decide +kernel
theorem dX2_isWord_38 : decode cX2_isWord 38 = .ok (.invokevirtual 123, 3) := by decide +kernel
theorem dX2_isWord_41 : decode cX2_isWord 41 = .ok (.aload_n 0, 1) := by decide +kernel
theorem dX2_isWord_42 : decode cX2_isWord 42 = .ok (.aload_n 0, 1) := by decide +kernel
theorem dX2_isWord_43 : decode cX2_isWord 43 = .ok (.getfield 32, 3) := by decide +kernel
theorem dX2_isWord_46 : decode cX2_isWord 46 = .ok (.iload_n 2, 1) := by decide +kernel
theorem dX2_isWord_47 : decode cX2_isWord 47 = .ok (.iadd, 1) := by decide +kernel
theorem dX2_isWord_48 : decode cX2_isWord 48 = .ok (.invokevirtual 111, 3) := by decide +kernel
theorem dX2_isWord_51 : decode cX2_isWord 51 = .ok (.if_icmp .eq 5, 3) := by decide +kernel
theorem dX2_isWord_54 : decode cX2_isWord 54 = .ok (.iconst 0, 1) := by decide +kernel
theorem dX2_isWord_55 : decode cX2_isWord 55 = .ok (.ireturn, 1) := by decide +kernel
theorem dX2_isWord_56 : decode cX2_isWord 56 = .ok (.iinc 2 1, 3) := by decide +kernel
theorem dX2_isWord_59 : decode cX2_isWord 59 = .ok (.goto (-31), 3) := by decide +kernel
theorem dX2_isWord_62 : decode cX2_isWord 62 = .ok (.iconst 1, 1) := by decide +kernel
theorem dX2_isWord_63 : decode cX2_isWord 63 = .ok (.ireturn, 1) := by decide +kernel
set_option maxRecDepth 20000 in
theorem ggX2_next_X2_byteAt : GoodIn wsX2_next wsX2_byteAt := goodIn_r _ [9, 3, 10, 14, 15, 16, 17, 18, 19] rfl (by decide +kernel)
set_option maxRecDepth 20000 in
theorem gX2_next_X2_byteAt : GoodIn wsX2_next (wsV RX2 111 RX2 yX2_byteAt wsX2_byteAt) := goodIn_app (goodIn_of _ (by decide +kernel)) ggX2_next_X2_byteAt
set_option maxRecDepth 20000 in
theorem ggX2_next_X2_tokenBegunBy : GoodIn wsX2_next wsX2_tokenBegunBy := goodIn_r _ [13] rfl (by decide +kernel)
set_option maxRecDepth 20000 in
theorem gX2_next_X2_tokenBegunBy : GoodIn wsX2_next (va_wsS RX2 127 yX2_tokenBegunBy wsX2_tokenBegunBy) := goodIn_app (goodIn_of _ (by decide +kernel)) ggX2_next_X2_tokenBegunBy
theorem dX2_next_0 : decode cX2_next 0 = .ok (.aload_n 0, 1) := by decide +kernel
theorem dX2_next_1 : decode cX2_next 1 = .ok (.aload_n 0, 1) := by decide +kernel
theorem dX2_next_2 : decode cX2_next 2 = .ok (.getfield 19, 3) := by decide +kernel
theorem dX2_next_5 : decode cX2_next 5 = .ok (.putfield 32, 3) := by decide +kernel
theorem dX2_next_8 : decode cX2_next 8 = .ok (.aload_n 0, 1) := by decide +kernel
theorem dX2_next_9 : decode cX2_next 9 = .ok (.getfield 32, 3) := by decide +kernel
theorem dX2_next_12 : decode cX2_next 12 = .ok (.aload_n 0, 1) := by decide +kernel
theorem dX2_next_13 : decode cX2_next 13 = .ok (.getfield 15, 3) := by decide +kernel
theorem dX2_next_16 : decode cX2_next 16 = .ok (.if_icmp .ge 29, 3) := by decide +kernel
theorem dX2_next_19 : decode cX2_next 19 = .ok (.aload_n 0, 1) := by decide +kernel
theorem dX2_next_20 : decode cX2_next 20 = .ok (.aload_n 0, 1) := by decide +kernel
theorem dX2_next_21 : decode cX2_next 21 = .ok (.getfield 32, 3) := by decide +kernel
theorem dX2_next_24 : decode cX2_next 24 = .ok (.invokevirtual 111, 3) := by decide +kernel
theorem dX2_next_27 : decode cX2_next 27 = .ok (.bipush 32, 2) := by decide +kernel
theorem dX2_next_29 : decode cX2_next 29 = .ok (.if_icmp .ne 16, 3) := by decide +kernel
theorem dX2_next_32 : decode cX2_next 32 = .ok (.aload_n 0, 1) := by decide +kernel
theorem dX2_next_33 : decode cX2_next 33 = .ok (.dup, 1) := by decide +kernel
theorem dX2_next_34 : decode cX2_next 34 = .ok (.getfield 32, 3) := by decide +kernel
theorem dX2_next_37 : decode cX2_next 37 = .ok (.iconst 1, 1) := by decide +kernel
theorem dX2_next_38 : decode cX2_next 38 = .ok (.iadd, 1) := by decide +kernel
theorem dX2_next_39 : decode cX2_next 39 = .ok (.putfield 32, 3) := by decide +kernel
theorem dX2_next_42 : decode cX2_next 42 = .ok (.goto (-34), 3) := by decide +kernel
theorem dX2_next_45 : decode cX2_next 45 = .ok (.aload_n 0, 1) := by decide +kernel
theorem dX2_next_46 : decode cX2_next 46 = .ok (.aload_n 0, 1) := by decide +kernel
theorem dX2_next_47 : decode cX2_next 47 = .ok (.aload_n 0, 1) := by decide +kernel
theorem dX2_next_48 : decode cX2_next 48 = .ok (.getfield 32, 3) := by decide +kernel
theorem dX2_next_51 : decode cX2_next 51 = .ok (.invokevirtual 111, 3) := by decide +kernel
theorem dX2_next_54 : decode cX2_next 54 = .ok (.invokestatic 127, 3) := by decide +kernel
theorem dX2_next_57 : decode cX2_next 57 = .ok (.putfield 29, 3) := by decide +kernel
theorem dX2_next_60 : decode cX2_next 60 = .ok (.aload_n 0, 1) := by decide +kernel
theorem dX2_next_61 : decode cX2_next 61 = .ok (.aload_n 0, 1) := by decide +kernel
theorem dX2_next_62 : decode cX2_next 62 = .ok (.getfield 32, 3) := by decide +kernel
theorem dX2_next_65 : decode cX2_next 65 = .ok (.iconst 1, 1) := by decide +kernel
theorem dX2_next_66 : decode cX2_next 66 = .ok (.iadd, 1) := by decide +kernel
theorem dX2_next_67 : decode cX2_next 67 = .ok (.putfield 19, 3) := by decide +kernel
theorem dX2_next_70 : decode cX2_next 70 = .ok (.aload_n 0, 1) := by decide +kernel
theorem dX2_next_71 : decode cX2_next 71 = .ok (.getfield 29, 3) := by decide +kernel
theorem dX2_next_74 : decode cX2_next 74 = .ok (.iconst 1, 1) := by decide +kernel
theorem dX2_next_75 : decode cX2_next 75 = .ok (.if_icmp .eq 11, 3) := by decide +kernel
theorem dX2_next_78 : decode cX2_next 78 = .ok (.aload_n 0, 1) := by decide +kernel
theorem dX2_next_79 : decode cX2_next 79 = .ok (.getfield 29, 3) := by decide +kernel
theorem dX2_next_82 : decode cX2_next 82 = .ok (.iconst 2, 1) := by decide +kernel
theorem dX2_next_83 : decode cX2_next 83 = .ok (.if_icmp .ne 45, 3) := by decide +kernel
theorem dX2_next_86 : decode cX2_next 86 = .ok (.aload_n 0, 1) := by decide +kernel
theorem dX2_next_87 : decode cX2_next 87 = .ok (.getfield 19, 3) := by decide +kernel
theorem dX2_next_90 : decode cX2_next 90 = .ok (.aload_n 0, 1) := by decide +kernel
theorem dX2_next_91 : decode cX2_next 91 = .ok (.getfield 15, 3) := by decide +kernel
theorem dX2_next_94 : decode cX2_next 94 = .ok (.if_icmp .ge 34, 3) := by decide +kernel
theorem dX2_next_97 : decode cX2_next 97 = .ok (.aload_n 0, 1) := by decide +kernel
theorem dX2_next_98 : decode cX2_next 98 = .ok (.aload_n 0, 1) := by decide +kernel
theorem dX2_next_99 : decode cX2_next 99 = .ok (.getfield 19, 3) := by decide +kernel
theorem dX2_next_102 : decode cX2_next 102 = .ok (.invokevirtual 111, 3) := by decide +kernel
theorem dX2_next_105 : decode cX2_next 105 = .ok (.invokestatic 127, 3) := by decide +kernel
theorem dX2_next_108 : decode cX2_next 108 = .ok (.aload_n 0, 1) := by decide +kernel
theorem dX2_next_109 : decode cX2_next 109 = .ok (.getfield 29, 3) := by decide +kernel
theorem dX2_next_112 : decode cX2_next 112 = .ok (.if_icmp .ne 16, 3) := by decide +kernel
theorem dX2_next_115 : decode cX2_next 115 = .ok (.aload_n 0, 1) := by decide +kernel
theorem dX2_next_116 : decode cX2_next 116 = .ok (.dup, 1) := by decide +kernel
theorem dX2_next_117 : decode cX2_next 117 = .ok (.getfield 19, 3) := by decide +kernel
theorem dX2_next_120 : decode cX2_next 120 = .ok (.iconst 1, 1) := by decide +kernel
theorem dX2_next_121 : decode cX2_next 121 = .ok (.iadd, 1) := by decide +kernel
theorem dX2_next_122 : decode cX2_next 122 = .ok (.putfield 19, 3) := by decide +kernel
theorem dX2_next_125 : decode cX2_next 125 = .ok (.goto (-39), 3) := by decide +kernel
theorem dX2_next_128 : decode cX2_next 128 = .ok (.return_, 1) := by decide +kernel
theorem dX2_tokenBegunBy_0 : decode cX2_tokenBegunBy 0 = .ok (.iload_n 0, 1) := by decide +kernel
theorem dX2_tokenBegunBy_1 : decode cX2_tokenBegunBy 1 = .ok (.ifCond .ge 5, 3) := by decide +kernel
theorem dX2_tokenBegunBy_4 : decode cX2_tokenBegunBy 4 = .ok (.iconst 0, 1) := by decide +kernel
theorem dX2_tokenBegunBy_5 : decode cX2_tokenBegunBy 5 = .ok (.ireturn, 1) := by decide +kernel
theorem dX2_tokenBegunBy_6 : decode cX2_tokenBegunBy 6 = .ok (.iload_n 0, 1) := by decide +kernel
theorem dX2_tokenBegunBy_7 : decode cX2_tokenBegunBy 7 = .ok (.bipush 97, 2) := by decide +kernel
theorem dX2_tokenBegunBy_9 : decode cX2_tokenBegunBy 9 = .ok (.if_icmp .lt 11, 3) := by decide +kernel
theorem dX2_tokenBegunBy_12 : decode cX2_tokenBegunBy 12 = .ok (.iload_n 0, 1) := by decide +kernel
theorem dX2_tokenBegunBy_13 : decode cX2_tokenBegunBy 13 = .ok (.bipush 122, 2) := by decide +kernel
theorem dX2_tokenBegunBy_15 : decode cX2_tokenBegunBy 15 = .ok (.if_icmp .gt 5, 3) := by decide +kernel
theorem dX2_tokenBegunBy_18 : decode cX2_tokenBegunBy 18 = .ok (.iconst 1, 1) := by decide +kernel
theorem dX2_tokenBegunBy_19 : decode cX2_tokenBegunBy 19 = .ok (.ireturn, 1) := by decide +kernel
theorem dX2_tokenBegunBy_20 : decode cX2_tokenBegunBy 20 = .ok (.iload_n 0, 1) := by decide +kernel
theorem dX2_tokenBegunBy_21 : decode cX2_tokenBegunBy 21 = .ok (.bipush 48, 2) := by decide +kernel
theorem dX2_tokenBegunBy_23 : decode cX2_tokenBegunBy 23 = .ok (.if_icmp .lt 11, 3) := by decide +kernel
theorem dX2_tokenBegunBy_26 : decode cX2_tokenBegunBy 26 = .ok (.iload_n 0, 1) := by decide +kernel
theorem dX2_tokenBegunBy_27 : decode cX2_tokenBegunBy 27 = .ok (.bipush 57, 2) := by decide +kernel
theorem dX2_tokenBegunBy_29 : decode cX2_tokenBegunBy 29 = .ok (.if_icmp .gt 5, 3) := by decide +kernel
theorem dX2_tokenBegunBy_32 : decode cX2_tokenBegunBy 32 = .ok (.iconst 2, 1) := by decide +kernel
theorem dX2_tokenBegunBy_33 : decode cX2_tokenBegunBy 33 = .ok (.ireturn, 1) := by decide +kernel
theorem dX2_tokenBegunBy_34 : decode cX2_tokenBegunBy 34 = .ok (.iload_n 0, 1) := by decide +kernel
theorem dX2_tokenBegunBy_35 : decode cX2_tokenBegunBy 35 = .ok (.bipush 59, 2) := by decide +kernel
theorem dX2_tokenBegunBy_37 : decode cX2_tokenBegunBy 37 = .ok (.if_icmp .ne 7, 3) := by decide +kernel
theorem dX2_tokenBegunBy_40 : decode cX2_tokenBegunBy 40 = .ok (.iconst 3, 1) := by decide +kernel
theorem dX2_tokenBegunBy_41 : decode cX2_tokenBegunBy 41 = .ok (.goto 4, 3) := by decide +kernel
theorem dX2_tokenBegunBy_44 : decode cX2_tokenBegunBy 44 = .ok (.iconst 4, 1) := by decide +kernel
theorem dX2_tokenBegunBy_45 : decode cX2_tokenBegunBy 45 = .ok (.ireturn, 1) := by decide +kernel
theorem dX2_byteAt_0 : decode cX2_byteAt 0 = .ok (.iload_n 1, 1) := by decide +kernel
theorem dX2_byteAt_1 : decode cX2_byteAt 1 = .ok (.ifCond .lt 30, 3) := by decide +kernel
theorem dX2_byteAt_4 : decode cX2_byteAt 4 = .ok (.iload_n 1, 1) := by decide +kernel
theorem dX2_byteAt_5 : decode cX2_byteAt 5 = .ok (.aload_n 0, 1) := by decide +kernel
theorem dX2_byteAt_6 : decode cX2_byteAt 6 = .ok (.getfield 15, 3) := by decide +kernel
theorem dX2_byteAt_9 : decode cX2_byteAt 9 = .ok (.if_icmp .ge 22, 3) := by decide +kernel
theorem dX2_byteAt_12 : decode cX2_byteAt 12 = .ok (.iload_n 1, 1) := by decide +kernel
theorem dX2_byteAt_13 : decode cX2_byteAt 13 = .ok (.bipush 120, 2) := by decide +kernel
theorem dX2_byteAt_15 : decode cX2_byteAt 15 = .ok (.if_icmp .ge 16, 3) := by decide +kernel
theorem dX2_byteAt_18 : decode cX2_byteAt 18 = .ok (.aload_n 0, 1) := by decide +kernel
theorem dX2_byteAt_19 : decode cX2_byteAt 19 = .ok (.getfield 9, 3) := by decide +kernel
theorem dX2_byteAt_22 : decode cX2_byteAt 22 = .ok (.iload_n 1, 1) := by decide +kernel
theorem dX2_byteAt_23 : decode cX2_byteAt 23 = .ok (.baload, 1) := by decide +kernel
theorem dX2_byteAt_24 : decode cX2_byteAt 24 = .ok (.sipush 255, 3) := by decide +kernel
theorem dX2_byteAt_27 : decode cX2_byteAt 27 = .ok (.iand, 1) := by decide +kernel
theorem dX2_byteAt_28 : decode cX2_byteAt 28 = .ok (.goto 4, 3) := by decide +kernel
theorem dX2_byteAt_31 : decode cX2_byteAt 31 = .ok (.iconst (-1), 1) := by decide +kernel
theorem dX2_byteAt_32 : decode cX2_byteAt 32 = .ok (.ireturn, 1) := by decide +kernel
theorem dX3_init_0 : decode cX3_init 0 = .ok (.aload_n 0, 1) := by decide +kernel
theorem dX3_init_1 : decode cX3_init 1 = .ok (.invokespecial 3, 3) := by decide +kernel
theorem dX3_init_4 : decode cX3_init 4 = .ok (.aload_n 0, 1) := by decide +kernel
theorem dX3_init_5 : decode cX3_init 5 = .ok (.sipush 200, 3) := by decide +kernel
theorem dX3_init_8 : decode cX3_init 8 = .ok (.putfield 9, 3) := by decide +kernel
theorem dX3_init_11 : decode cX3_init 11 = .ok (.aload_n 0, 1) := by decide +kernel
theorem dX3_init_12 : decode cX3_init 12 = .ok (.iconst 1, 1) := by decide +kernel
theorem dX3_init_13 : decode cX3_init 13 = .ok (.putfield 15, 3) := by decide +kernel
theorem dX3_init_16 : decode cX3_init 16 = .ok (.aload_n 0, 1) := by decide +kernel
theorem dX3_init_17 : decode cX3_init 17 = .ok (.iconst 1, 1) := by decide +kernel
theorem dX3_init_18 : decode cX3_init 18 = .ok (.putfield 18, 3) := by decide +kernel
theorem dX3_init_21 : decode cX3_init 21 = .ok (.aload_n 0, 1) := by decide +kernel
theorem dX3_init_22 : decode cX3_init 22 = .ok (.bipush 9, 2) := by decide +kernel
theorem dX3_init_24 : decode cX3_init 24 = .ok (.newarray .int, 2) := by decide +kernel
theorem dX3_init_26 : decode cX3_init 26 = .ok (.putfield 21, 3) := by decide +kernel
theorem dX3_init_29 : decode cX3_init 29 = .ok (.aload_n 0, 1) := by decide +kernel
theorem dX3_init_30 : decode cX3_init 30 = .ok (.bipush 9, 2) := by decide +kernel
theorem dX3_init_32 : decode cX3_init 32 = .ok (.newarray .int, 2) := by decide +kernel
theorem dX3_init_34 : decode cX3_init 34 = .ok (.putfield 25, 3) := by decide +kernel
theorem dX3_init_37 : decode cX3_init 37 = .ok (.aload_n 0, 1) := by decide +kernel
theorem dX3_init_38 : decode cX3_init 38 = .ok (.bipush 9, 2) := by decide +kernel
theorem dX3_init_40 : decode cX3_init 40 = .ok (.newarray .int, 2) := by decide +kernel
theorem dX3_init_42 : decode cX3_init 42 = .ok (.putfield 28, 3) := by decide +kernel
theorem dX3_init_45 : decode cX3_init 45 = .ok (.aload_n 0, 1) := by decide +kernel
theorem dX3_init_46 : decode cX3_init 46 = .ok (.bipush 9, 2) := by decide +kernel
theorem dX3_init_48 : decode cX3_init 48 = .ok (.newarray .int, 2) := by decide +kernel
theorem dX3_init_50 : decode cX3_init 50 = .ok (.putfield 31, 3) := by decide +kernel
theorem dX3_init_53 : decode cX3_init 53 = .ok (.aload_n 0, 1) := by decide +kernel
theorem dX3_init_54 : decode cX3_init 54 = .ok (.bipush 9, 2) := by decide +kernel
theorem dX3_init_56 : decode cX3_init 56 = .ok (.newarray .int, 2) := by decide +kernel
theorem dX3_init_58 : decode cX3_init 58 = .ok (.putfield 34, 3) := by decide +kernel
theorem dX3_init_61 : decode cX3_init 61 = .ok (.aload_n 0, 1) := by decide +kernel
theorem dX3_init_62 : decode cX3_init 62 = .ok (.bipush 9, 2) := by decide +kernel
theorem dX3_init_64 : decode cX3_init 64 = .ok (.newarray .int, 2) := by decide +kernel
theorem dX3_init_66 : decode cX3_init 66 = .ok (.putfield 37, 3) := by decide +kernel
theorem dX3_init_69 : decode cX3_init 69 = .ok (.aload_n 0, 1) := by decide +kernel
theorem dX3_init_70 : decode cX3_init 70 = .ok (.bipush 9, 2) := by decide +kernel
theorem dX3_init_72 : decode cX3_init 72 = .ok (.newarray .int, 2) := by decide +kernel
theorem dX3_init_74 : decode cX3_init 74 = .ok (.putfield 40, 3) := by decide +kernel
theorem dX3_init_77 : decode cX3_init 77 = .ok (.aload_n 0, 1) := by decide +kernel
theorem dX3_init_78 : decode cX3_init 78 = .ok (.bipush 9, 2) := by decide +kernel
theorem dX3_init_80 : decode cX3_init 80 = .ok (.newarray .int, 2) := by decide +kernel
theorem dX3_init_82 : decode cX3_init 82 = .ok (.putfield 43, 3) := by decide +kernel
theorem dX3_init_85 : decode cX3_init 85 = .ok (.aload_n 0, 1) := by decide +kernel
theorem dX3_init_86 : decode cX3_init 86 = .ok (.bipush 9, 2) := by decide +kernel
theorem dX3_init_88 : decode cX3_init 88 = .ok (.newarray .int, 2) := by decide +kernel
theorem dX3_init_90 : decode cX3_init 90 = .ok (.putfield 46, 3) := by decide +kernel
theorem dX3_init_93 : decode cX3_init 93 = .ok (.return_, 1) := by decide +kernel
theorem dX3_takeOver_0 : decode cX3_takeOver 0 = .ok (.aload_n 0, 1) := by decide +kernel
theorem dX3_takeOver_1 : decode cX3_takeOver 1 = .ok (.aload_n 1, 1) := by decide +kernel
theorem dX3_takeOver_2 : decode cX3_takeOver 2 = .ok (.getfield 9, 3) := by decide +kernel
theorem dX3_takeOver_5 : decode cX3_takeOver 5 = .ok (.putfield 9, 3) := by decide +kernel
theorem dX3_takeOver_8 : decode cX3_takeOver 8 = .ok (.aload_n 0, 1) := by decide +kernel
theorem dX3_takeOver_9 : decode cX3_takeOver 9 = .ok (.aload_n 1, 1) := by decide +kernel
theorem dX3_takeOver_10 : decode cX3_takeOver 10 = .ok (.getfield 15, 3) := by decide +kernel
theorem dX3_takeOver_13 : decode cX3_takeOver 13 = .ok (.putfield 15, 3) := by decide +kernel
theorem dX3_takeOver_16 : decode cX3_takeOver 16 = .ok (.aload_n 0, 1) := by decide +kernel
theorem dX3_takeOver_17 : decode cX3_takeOver 17 = .ok (.aload_n 1, 1) := by decide +kernel
theorem dX3_takeOver_18 : decode cX3_takeOver 18 = .ok (.getfield 18, 3) := by decide +kernel
theorem dX3_takeOver_21 : decode cX3_takeOver 21 = .ok (.putfield 18, 3) := by decide +kernel
theorem dX3_takeOver_24 : decode cX3_takeOver 24 = .ok (.aload_n 0, 1) := by decide +kernel
theorem dX3_takeOver_25 : decode cX3_takeOver 25 = .ok (.aload_n 1, 1) := by decide +kernel
theorem dX3_takeOver_26 : decode cX3_takeOver 26 = .ok (.getfield 49, 3) := by decide +kernel
theorem dX3_takeOver_29 : decode cX3_takeOver 29 = .ok (.putfield 49, 3) := by decide +kernel
theorem dX3_takeOver_32 : decode cX3_takeOver 32 = .ok (.aload_n 0, 1) := by decide +kernel
theorem dX3_takeOver_33 : decode cX3_takeOver 33 = .ok (.aload_n 1, 1) := by decide +kernel
theorem dX3_takeOver_34 : decode cX3_takeOver 34 = .ok (.getfield 52, 3) := by decide +kernel
theorem dX3_takeOver_37 : decode cX3_takeOver 37 = .ok (.putfield 52, 3) := by decide +kernel
theorem dX3_takeOver_40 : decode cX3_takeOver 40 = .ok (.aload_n 0, 1) := by decide +kernel
theorem dX3_takeOver_41 : decode cX3_takeOver 41 = .ok (.aload_n 1, 1) := by decide +kernel
theorem dX3_takeOver_42 : decode cX3_takeOver 42 = .ok (.getfield 55, 3) := by decide +kernel
theorem dX3_takeOver_45 : decode cX3_takeOver 45 = .ok (.putfield 55, 3) := by decide +kernel
theorem dX3_takeOver_48 : decode cX3_takeOver 48 = .ok (.iconst 0, 1) := by decide +kernel
theorem dX3_takeOver_49 : decode cX3_takeOver 49 = .ok (.istore_n 2, 1) := by decide +kernel
theorem dX3_takeOver_50 : decode cX3_takeOver 50 = .ok (.iload_n 2, 1) := by decide +kernel
theorem dX3_takeOver_51 : decode cX3_takeOver 51 = .ok (.bipush 9, 2) := by decide +kernel
theorem dX3_takeOver_53 : decode cX3_takeOver 53 = .ok (.if_icmp .ge 105, 3) := by decide +kernel
theorem dX3_takeOver_56 : decode cX3_takeOver 56 = .ok (.aload_n 0, 1) := by decide +kernel
theorem dX3_takeOver_57 : decode cX3_takeOver 57 = .ok (.getfield 21, 3) := by decide +kernel
theorem dX3_takeOver_60 : decode cX3_takeOver 60 = .ok (.iload_n 2, 1) := by decide +kernel
theorem dX3_takeOver_61 : decode cX3_takeOver 61 = .ok (.aload_n 1, 1) := by decide +kernel
theorem dX3_takeOver_62 : decode cX3_takeOver 62 = .ok (.getfield 21, 3) := by decide +kernel
theorem dX3_takeOver_65 : decode cX3_takeOver 65 = .ok (.iload_n 2, 1) := by decide +kernel
theorem dX3_takeOver_66 : decode cX3_takeOver 66 = .ok (.iaload, 1) := by decide +kernel
theorem dX3_takeOver_67 : decode cX3_takeOver 67 = .ok (.iastore, 1) := by decide +kernel
theorem dX3_takeOver_68 : decode cX3_takeOver 68 = .ok (.aload_n 0, 1) := by decide +kernel
theorem dX3_takeOver_69 : decode cX3_takeOver 69 = .ok (.getfield 25, 3) := by decide +kernel
theorem dX3_takeOver_72 : decode cX3_takeOver 72 = .ok (.iload_n 2, 1) := by decide +kernel
theorem dX3_takeOver_73 : decode cX3_takeOver 73 = .ok (.aload_n 1, 1) := by decide +kernel
theorem dX3_takeOver_74 : decode cX3_takeOver 74 = .ok (.getfield 25, 3) := by decide +kernel
theorem dX3_takeOver_77 : decode cX3_takeOver 77 = .ok (.iload_n 2, 1) := by decide +kernel
theorem dX3_takeOver_78 : decode cX3_takeOver 78 = .ok (.iaload, 1) := by decide +kernel
theorem dX3_takeOver_79 : decode cX3_takeOver 79 = .ok (.iastore, 1) := by decide +kernel
theorem dX3_takeOver_80 : decode cX3_takeOver 80 = .ok (.aload_n 0, 1) := by decide +kernel
theorem dX3_takeOver_81 : decode cX3_takeOver 81 = .ok (.getfield 28, 3) := by decide +kernel
theorem dX3_takeOver_84 : decode cX3_takeOver 84 = .ok (.iload_n 2, 1) := by decide +kernel
theorem dX3_takeOver_85 : decode cX3_takeOver 85 = .ok (.aload_n 1, 1) := by decide +kernel
theorem dX3_takeOver_86 : decode cX3_takeOver 86 = .ok (.getfield 28, 3) := by decide +kernel
theorem dX3_takeOver_89 : decode cX3_takeOver 89 = .ok (.iload_n 2, 1) := by decide +kernel
theorem dX3_takeOver_90 : decode cX3_takeOver 90 = .ok (.iaload, 1) := by decide +kernel
theorem dX3_takeOver_91 : decode cX3_takeOver 91 = .ok (.iastore, 1) := by decide +kernel
theorem dX3_takeOver_92 : decode cX3_takeOver 92 = .ok (.aload_n 0, 1) := by decide +kernel
theorem dX3_takeOver_93 : decode cX3_takeOver 93 = .ok (.getfield 31, 3) := by decide +kernel
theorem dX3_takeOver_96 : decode cX3_takeOver 96 = .ok (.iload_n 2, 1) := by decide +kernel
theorem dX3_takeOver_97 : decode cX3_takeOver 97 = .ok (.aload_n 1, 1) := by decide +kernel
theorem dX3_takeOver_98 : decode cX3_takeOver 98 = .ok (.getfield 31, 3) := by decide +kernel
theorem dX3_takeOver_101 : decode cX3_takeOver 101 = .ok (.iload_n 2, 1) := by decide +kernel
theorem dX3_takeOver_102 : decode cX3_takeOver 102 = .ok (.iaload, 1) := by decide +kernel
theorem dX3_takeOver_103 : decode cX3_takeOver 103 = .ok (.iastore, 1) := by decide +kernel
theorem dX3_takeOver_104 : decode cX3_takeOver 104 = .ok (.aload_n 0, 1) := by decide +kernel
theorem dX3_takeOver_105 : decode cX3_takeOver 105 = .ok (.getfield 34, 3) := by decide +kernel
theorem dX3_takeOver_108 : decode cX3_takeOver 108 = .ok (.iload_n 2, 1) := by decide +kernel
theorem dX3_takeOver_109 : decode cX3_takeOver 109 = .ok (.aload_n 1, 1) := by decide +kernel
theorem dX3_takeOver_110 : decode cX3_takeOver 110 = .ok (.getfield 34, 3) := by decide +kernel
theorem dX3_takeOver_113 : decode cX3_takeOver 113 = .ok (.iload_n 2, 1) := by decide +kernel
theorem dX3_takeOver_114 : decode cX3_takeOver 114 = .ok (.iaload, 1) := by decide +kernel
theorem dX3_takeOver_115 : decode cX3_takeOver 115 = .ok (.iastore, 1) := by decide +kernel
theorem dX3_takeOver_116 : decode cX3_takeOver 116 = .ok (.aload_n 0, 1) := by decide +kernel
theorem dX3_takeOver_117 : decode cX3_takeOver 117 = .ok (.getfield 37, 3) := by decide +kernel
theorem dX3_takeOver_120 : decode cX3_takeOver 120 = .ok (.iload_n 2, 1) := by decide +kernel
theorem dX3_takeOver_121 : decode cX3_takeOver 121 = .ok (.aload_n 1, 1) := by decide +kernel
theorem dX3_takeOver_122 : decode cX3_takeOver 122 = .ok (.getfield 37, 3) := by decide +kernel
theorem dX3_takeOver_125 : decode cX3_takeOver 125 = .ok (.iload_n 2, 1) := by decide +kernel
theorem dX3_takeOver_126 : decode cX3_takeOver 126 = .ok (.iaload, 1) := by decide +kernel
theorem dX3_takeOver_127 : decode cX3_takeOver 127 = .ok (.iastore, 1) := by decide +kernel
theorem dX3_takeOver_128 : decode cX3_takeOver 128 = .ok (.aload_n 0, 1) := by decide +kernel
theorem dX3_takeOver_129 : decode cX3_takeOver 129 = .ok (.getfield 40, 3) := by decide +kernel
theorem dX3_takeOver_132 : decode cX3_takeOver 132 = .ok (.iload_n 2, 1) := by decide +kernel
theorem dX3_takeOver_133 : decode cX3_takeOver 133 = .ok (.aload_n 1, 1) := by decide +kernel
theorem dX3_takeOver_134 : decode cX3_takeOver 134 = .ok (.getfield 40, 3) := by decide +kernel
theorem dX3_takeOver_137 : decode cX3_takeOver 137 = .ok (.iload_n 2, 1) := by decide +kernel
theorem dX3_takeOver_138 : decode cX3_takeOver 138 = .ok (.iaload, 1) := by decide +kernel
theorem dX3_takeOver_139 : decode cX3_takeOver 139 = .ok (.iastore, 1) := by decide +kernel
theorem dX3_takeOver_140 : decode cX3_takeOver 140 = .ok (.aload_n 0, 1) := by decide +kernel
theorem dX3_takeOver_141 : decode cX3_takeOver 141 = .ok (.getfield 43, 3) := by decide +kernel
theorem dX3_takeOver_144 : decode cX3_takeOver 144 = .ok (.iload_n 2, 1) := by decide +kernel
theorem dX3_takeOver_145 : decode cX3_takeOver 145 = .ok (.aload_n 1, 1) := by decide +kernel
theorem dX3_takeOver_146 : decode cX3_takeOver 146 = .ok (.getfield 43, 3) := by decide +kernel
theorem dX3_takeOver_149 : decode cX3_takeOver 149 = .ok (.iload_n 2, 1) := by decide +kernel
theorem dX3_takeOver_150 : decode cX3_takeOver 150 = .ok (.iaload, 1) := by decide +kernel
theorem dX3_takeOver_151 : decode cX3_takeOver 151 = .ok (.iastore, 1) := by decide +kernel
theorem dX3_takeOver_152 : decode cX3_takeOver 152 = .ok (.iinc 2 1, 3) := by decide +kernel
theorem dX3_takeOver_155 : decode cX3_takeOver 155 = .ok (.goto (-105), 3) := by decide +kernel
theorem dX3_takeOver_158 : decode cX3_takeOver 158 = .ok (.return_, 1) := by decide +kernel
theorem dX3_add_0 : decode cX3_add 0 = .ok (.aload_n 0, 1) := by decide +kernel
theorem dX3_add_1 : decode cX3_add 1 = .ok (.getfield 52, 3) := by decide +kernel
theorem dX3_add_4 : decode cX3_add 4 = .ok (.ifCond .lt 12, 3) := by decide +kernel
theorem dX3_add_7 : decode cX3_add 7 = .ok (.aload_n 0, 1) := by decide +kernel
theorem dX3_add_8 : decode cX3_add 8 = .ok (.getfield 52, 3) := by decide +kernel
theorem dX3_add_11 : decode cX3_add 11 = .ok (.bipush 9, 2) := by decide +kernel
theorem dX3_add_13 : decode cX3_add 13 = .ok (.if_icmp .lt 5, 3) := by decide +kernel
theorem dX3_add_16 : decode cX3_add 16 = .ok (.iconst (-1), 1) := by decide +kernel
theorem dX3_add_17 : decode cX3_add 17 = .ok (.ireturn, 1) := by decide +kernel
theorem dX3_add_18 : decode cX3_add 18 = .ok (.aload_n 0, 1) := by decide +kernel
theorem dX3_add_19 : decode cX3_add 19 = .ok (.getfield 52, 3) := by decide +kernel
theorem dX3_add_22 : decode cX3_add 22 = .ok (.istore 4, 2) := by decide +kernel
theorem dX3_add_24 : decode cX3_add 24 = .ok (.aload_n 0, 1) := by decide +kernel
theorem dX3_add_25 : decode cX3_add 25 = .ok (.getfield 21, 3) := by decide +kernel
theorem dX3_add_28 : decode cX3_add 28 = .ok (.iload 4, 2) := by decide +kernel
theorem dX3_add_30 : decode cX3_add 30 = .ok (.iload_n 1, 1) := by decide +kernel
theorem dX3_add_31 : decode cX3_add 31 = .ok (.iastore, 1) := by decide +kernel
theorem dX3_add_32 : decode cX3_add 32 = .ok (.aload_n 0, 1) := by decide +kernel
theorem dX3_add_33 : decode cX3_add 33 = .ok (.getfield 25, 3) := by decide +kernel
theorem dX3_add_36 : decode cX3_add 36 = .ok (.iload 4, 2) := by decide +kernel
theorem dX3_add_38 : decode cX3_add 38 = .ok (.iload_n 2, 1) := by decide +kernel
theorem dX3_add_39 : decode cX3_add 39 = .ok (.iastore, 1) := by decide +kernel
theorem dX3_add_40 : decode cX3_add 40 = .ok (.aload_n 0, 1) := by decide +kernel
theorem dX3_add_41 : decode cX3_add 41 = .ok (.getfield 28, 3) := by decide +kernel
theorem dX3_add_44 : decode cX3_add 44 = .ok (.iload 4, 2) := by decide +kernel
theorem dX3_add_46 : decode cX3_add 46 = .ok (.iload_n 3, 1) := by decide +kernel
theorem dX3_add_47 : decode cX3_add 47 = .ok (.iastore, 1) := by decide +kernel
theorem dX3_add_48 : decode cX3_add 48 = .ok (.aload_n 0, 1) := by decide +kernel
theorem dX3_add_49 : decode cX3_add 49 = .ok (.getfield 31, 3) := by decide +kernel
theorem dX3_add_52 : decode cX3_add 52 = .ok (.iload 4, 2) := by decide +kernel
theorem dX3_add_54 : decode cX3_add 54 = .ok (.iconst (-1), 1) := by decide +kernel
theorem dX3_add_55 : decode cX3_add 55 = .ok (.iastore, 1) := by decide +kernel
theorem dX3_add_56 : decode cX3_add 56 = .ok (.aload_n 0, 1) := by decide +kernel
theorem dX3_add_57 : decode cX3_add 57 = .ok (.getfield 34, 3) := by decide +kernel
theorem dX3_add_60 : decode cX3_add 60 = .ok (.iload 4, 2) := by decide +kernel
theorem dX3_add_62 : decode cX3_add 62 = .ok (.iconst 0, 1) := by decide +kernel
theorem dX3_add_63 : decode cX3_add 63 = .ok (.iastore, 1) := by decide +kernel
theorem dX3_add_64 : decode cX3_add 64 = .ok (.aload_n 0, 1) := by decide +kernel
theorem dX3_add_65 : decode cX3_add 65 = .ok (.getfield 37, 3) := by decide +kernel
theorem dX3_add_68 : decode cX3_add 68 = .ok (.iload 4, 2) := by decide +kernel
theorem dX3_add_70 : decode cX3_add 70 = .ok (.iconst 0, 1) := by decide +kernel
theorem dX3_add_71 : decode cX3_add 71 = .ok (.iastore, 1) := by decide +kernel
theorem dX3_add_72 : decode cX3_add 72 = .ok (.aload_n 0, 1) := by decide +kernel
theorem dX3_add_73 : decode cX3_add 73 = .ok (.getfield 40, 3) := by decide +kernel
theorem dX3_add_76 : decode cX3_add 76 = .ok (.iload 4, 2) := by decide +kernel
theorem dX3_add_78 : decode cX3_add 78 = .ok (.iconst 0, 1) := by decide +kernel
theorem dX3_add_79 : decode cX3_add 79 = .ok (.iastore, 1) := by decide +kernel
theorem dX3_add_80 : decode cX3_add 80 = .ok (.aload_n 0, 1) := by decide +kernel
theorem dX3_add_81 : decode cX3_add 81 = .ok (.getfield 43, 3) := by decide +kernel
theorem dX3_add_84 : decode cX3_add 84 = .ok (.iload 4, 2) := by decide +kernel
theorem dX3_add_86 : decode cX3_add 86 = .ok (.iconst (-1), 1) := by decide +kernel
theorem dX3_add_87 : decode cX3_add 87 = .ok (.iastore, 1) := by decide +kernel
theorem dX3_add_88 : decode cX3_add 88 = .ok (.aload_n 0, 1) := by decide +kernel
theorem dX3_add_89 : decode cX3_add 89 = .ok (.dup, 1) := by decide +kernel
theorem dX3_add_90 : decode cX3_add 90 = .ok (.getfield 52, 3) := by decide +kernel
theorem dX3_add_93 : decode cX3_add 93 = .ok (.iconst 1, 1) := by decide +kernel
theorem dX3_add_94 : decode cX3_add 94 = .ok (.iadd, 1) := by decide +kernel
theorem dX3_add_95 : decode cX3_add 95 = .ok (.putfield 52, 3) := by decide +kernel
theorem dX3_add_98 : decode cX3_add 98 = .ok (.iload 4, 2) := by decide +kernel
theorem dX3_add_100 : decode cX3_add 100 = .ok (.ireturn, 1) := by decide +kernel
set_option maxRecDepth 20000 in
theorem ggX3_changePaces_X3_has : GoodIn wsX3_changePaces wsX3_has := goodIn_r _ [6, 7, 8, 9, 10, 11, 12, 13, 14, 15, 16, 17, 18, 19, 20, 21, 22] rfl (by decide +kernel)
set_option maxRecDepth 20000 in
theorem gX3_changePaces_X3_has : GoodIn wsX3_changePaces (wsV RX3 58 RX3 yX3_has wsX3_has) := goodIn_app (goodIn_of _ (by decide +kernel)) ggX3_changePaces_X3_has
theorem dX3_changePaces_0 : decode cX3_changePaces 0 = .ok (.aload_n 0, 1) := by decide +kernel
theorem dX3_changePaces_1 : decode cX3_changePaces 1 = .ok (.iload_n 1, 1) := by decide +kernel
theorem dX3_changePaces_2 : decode cX3_changePaces 2 = .ok (.invokevirtual 58, 3) := by decide +kernel
theorem dX3_changePaces_5 : decode cX3_changePaces 5 = .ok (.ifCond .eq 37, 3) := by decide +kernel
theorem dX3_changePaces_8 : decode cX3_changePaces 8 = .ok (.aload_n 0, 1) := by decide +kernel
theorem dX3_changePaces_9 : decode cX3_changePaces 9 = .ok (.iload_n 2, 1) := by decide +kernel
theorem dX3_changePaces_10 : decode cX3_changePaces 10 = .ok (.invokevirtual 58, 3) := by decide +kernel
theorem dX3_changePaces_13 : decode cX3_changePaces 13 = .ok (.ifCond .eq 29, 3) := by decide +kernel
theorem dX3_changePaces_16 : decode cX3_changePaces 16 = .ok (.aload_n 0, 1) := by decide +kernel
theorem dX3_changePaces_17 : decode cX3_changePaces 17 = .ok (.getfield 25, 3) := by decide +kernel
theorem dX3_changePaces_20 : decode cX3_changePaces 20 = .ok (.iload_n 1, 1) := by decide +kernel
theorem dX3_changePaces_21 : decode cX3_changePaces 21 = .ok (.iaload, 1) := by decide +kernel
theorem dX3_changePaces_22 : decode cX3_changePaces 22 = .ok (.istore_n 3, 1) := by decide +kernel
theorem dX3_changePaces_23 : decode cX3_changePaces 23 = .ok (.aload_n 0, 1) := by decide +kernel
theorem dX3_changePaces_24 : decode cX3_changePaces 24 = .ok (.getfield 25, 3) := by decide +kernel
theorem dX3_changePaces_27 : decode cX3_changePaces 27 = .ok (.iload_n 1, 1) := by decide +kernel
theorem dX3_changePaces_28 : decode cX3_changePaces 28 = .ok (.aload_n 0, 1) := by decide +kernel
theorem dX3_changePaces_29 : decode cX3_changePaces 29 = .ok (.getfield 25, 3) := by decide +kernel
theorem dX3_changePaces_32 : decode cX3_changePaces 32 = .ok (.iload_n 2, 1) := by decide +kernel
theorem dX3_changePaces_33 : decode cX3_changePaces 33 = .ok (.iaload, 1) := by decide +kernel
theorem dX3_changePaces_34 : decode cX3_changePaces 34 = .ok (.iastore, 1) := by decide +kernel
theorem dX3_changePaces_35 : decode cX3_changePaces 35 = .ok (.aload_n 0, 1) := by decide +kernel
theorem dX3_changePaces_36 : decode cX3_changePaces 36 = .ok (.getfield 25, 3) := by decide +kernel
theorem dX3_changePaces_39 : decode cX3_changePaces 39 = .ok (.iload_n 2, 1) := by decide +kernel
theorem dX3_changePaces_40 : decode cX3_changePaces 40 = .ok (.iload_n 3, 1) := by decide +kernel
theorem dX3_changePaces_41 : decode cX3_changePaces 41 = .ok (.iastore, 1) := by decide +kernel
theorem dX3_changePaces_42 : decode cX3_changePaces 42 = .ok (.return_, 1) := by decide +kernel
theorem dX3_has_0 : decode cX3_has 0 = .ok (.iload_n 1, 1) := by decide +kernel
theorem dX3_has_1 : decode cX3_has 1 = .ok (.ifCond .lt 21, 3) := by decide +kernel
theorem dX3_has_4 : decode cX3_has 4 = .ok (.iload_n 1, 1) := by decide +kernel
theorem dX3_has_5 : decode cX3_has 5 = .ok (.aload_n 0, 1) := by decide +kernel
theorem dX3_has_6 : decode cX3_has 6 = .ok (.getfield 52, 3) := by decide +kernel
theorem dX3_has_9 : decode cX3_has 9 = .ok (.if_icmp .ge 13, 3) := by decide +kernel
theorem dX3_has_12 : decode cX3_has 12 = .ok (.iload_n 1, 1) := by decide +kernel
theorem dX3_has_13 : decode cX3_has 13 = .ok (.bipush 9, 2) := by decide +kernel
theorem dX3_has_15 : decode cX3_has 15 = .ok (.if_icmp .ge 7, 3) := by decide +kernel
theorem dX3_has_18 : decode cX3_has 18 = .ok (.iconst 1, 1) := by decide +kernel
theorem dX3_has_19 : decode cX3_has 19 = .ok (.goto 4, 3) := by decide +kernel
theorem dX3_has_22 : decode cX3_has 22 = .ok (.iconst 0, 1) := by decide +kernel
theorem dX3_has_23 : decode cX3_has 23 = .ok (.ireturn, 1) := by decide +kernel
theorem dX3_isStart_0 : decode cX3_isStart 0 = .ok (.iload_n 1, 1) := by decide +kernel
theorem dX3_isStart_1 : decode cX3_isStart 1 = .ok (.ifCond .lt 15, 3) := by decide +kernel
theorem dX3_isStart_4 : decode cX3_isStart 4 = .ok (.iload_n 1, 1) := by decide +kernel
theorem dX3_isStart_5 : decode cX3_isStart 5 = .ok (.aload_n 0, 1) := by decide +kernel
theorem dX3_isStart_6 : decode cX3_isStart 6 = .ok (.getfield 9, 3) := by decide +kernel
theorem dX3_isStart_9 : decode cX3_isStart 9 = .ok (.if_icmp .ge 7, 3) := by decide +kernel
theorem dX3_isStart_12 : decode cX3_isStart 12 = .ok (.iconst 1, 1) := by decide +kernel
theorem dX3_isStart_13 : decode cX3_isStart 13 = .ok (.goto 4, 3) := by decide +kernel
theorem dX3_isStart_16 : decode cX3_isStart 16 = .ok (.iconst 0, 1) := by decide +kernel
theorem dX3_isStart_17 : decode cX3_isStart 17 = .ok (.ireturn, 1) := by decide +kernel
set_option maxRecDepth 20000 in
theorem ggX3_isHome_X3_has : GoodIn wsX3_isHome wsX3_has := goodIn_r _ [6, 7, 8, 9, 10, 11, 12, 13, 14, 15, 16, 17, 18, 19, 20, 21, 22] rfl (by decide +kernel)
set_option maxRecDepth 20000 in
theorem gX3_isHome_X3_has : GoodIn wsX3_isHome (wsV RX3 58 RX3 yX3_has wsX3_has) := goodIn_app (goodIn_of _ (by decide +kernel)) ggX3_isHome_X3_has
theorem dX3_isHome_0 : decode cX3_isHome 0 = .ok (.aload_n 0, 1) := by decide +kernel
theorem dX3_isHome_1 : decode cX3_isHome 1 = .ok (.iload_n 1, 1) := by decide +kernel
theorem dX3_isHome_2 : decode cX3_isHome 2 = .ok (.invokevirtual 58, 3) := by decide +kernel
theorem dX3_isHome_5 : decode cX3_isHome 5 = .ok (.ifCond .eq 16, 3) := by decide +kernel
theorem dX3_isHome_8 : decode cX3_isHome 8 = .ok (.aload_n 0, 1) := by decide +kernel
theorem dX3_isHome_9 : decode cX3_isHome 9 = .ok (.getfield 43, 3) := by decide +kernel
theorem dX3_isHome_12 : decode cX3_isHome 12 = .ok (.iload_n 1, 1) := by decide +kernel
theorem dX3_isHome_13 : decode cX3_isHome 13 = .ok (.iaload, 1) := by decide +kernel
theorem dX3_isHome_14 : decode cX3_isHome 14 = .ok (.ifCond .lt 7, 3) := by decide +kernel
theorem dX3_isHome_17 : decode cX3_isHome 17 = .ok (.iconst 1, 1) := by decide +kernel
theorem dX3_isHome_18 : decode cX3_isHome 18 = .ok (.goto 4, 3) := by decide +kernel
theorem dX3_isHome_21 : decode cX3_isHome 21 = .ok (.iconst 0, 1) := by decide +kernel
theorem dX3_isHome_22 : decode cX3_isHome 22 = .ok (.ireturn, 1) := by decide +kernel
theorem dX3_allHome_0 : decode cX3_allHome 0 = .ok (.aload_n 0, 1) := by decide +kernel
theorem dX3_allHome_1 : decode cX3_allHome 1 = .ok (.getfield 55, 3) := by decide +kernel
theorem dX3_allHome_4 : decode cX3_allHome 4 = .ok (.aload_n 0, 1) := by decide +kernel
theorem dX3_allHome_5 : decode cX3_allHome 5 = .ok (.getfield 52, 3) := by decide +kernel
theorem dX3_allHome_8 : decode cX3_allHome 8 = .ok (.if_icmp .lt 7, 3) := by decide +kernel
theorem dX3_allHome_11 : decode cX3_allHome 11 = .ok (.iconst 1, 1) := by decide +kernel
theorem dX3_allHome_12 : decode cX3_allHome 12 = .ok (.goto 4, 3) := by decide +kernel
theorem dX3_allHome_15 : decode cX3_allHome 15 = .ok (.iconst 0, 1) := by decide +kernel
theorem dX3_allHome_16 : decode cX3_allHome 16 = .ok (.ireturn, 1) := by decide +kernel
theorem dX3_lineUp_0 : decode cX3_lineUp 0 = .ok (.iconst 0, 1) := by decide +kernel
theorem dX3_lineUp_1 : decode cX3_lineUp 1 = .ok (.istore_n 1, 1) := by decide +kernel
theorem dX3_lineUp_2 : decode cX3_lineUp 2 = .ok (.iload_n 1, 1) := by decide +kernel
theorem dX3_lineUp_3 : decode cX3_lineUp 3 = .ok (.aload_n 0, 1) := by decide +kernel
theorem dX3_lineUp_4 : decode cX3_lineUp 4 = .ok (.getfield 52, 3) := by decide +kernel
theorem dX3_lineUp_7 : decode cX3_lineUp 7 = .ok (.if_icmp .ge 28, 3) := by decide +kernel
theorem dX3_lineUp_10 : decode cX3_lineUp 10 = .ok (.aload_n 0, 1) := by decide +kernel
theorem dX3_lineUp_11 : decode cX3_lineUp 11 = .ok (.getfield 37, 3) := by decide +kernel
theorem dX3_lineUp_14 : decode cX3_lineUp 14 = .ok (.iload_n 1, 1) := by decide +kernel
theorem dX3_lineUp_15 : decode cX3_lineUp 15 = .ok (.aload_n 0, 1) := by decide +kernel
theorem dX3_lineUp_16 : decode cX3_lineUp 16 = .ok (.getfield 34, 3) := by decide +kernel
theorem dX3_lineUp_19 : decode cX3_lineUp 19 = .ok (.iload_n 1, 1) := by decide +kernel
theorem dX3_lineUp_20 : decode cX3_lineUp 20 = .ok (.iaload, 1) := by decide +kernel
theorem dX3_lineUp_21 : decode cX3_lineUp 21 = .ok (.iastore, 1) := by decide +kernel
theorem dX3_lineUp_22 : decode cX3_lineUp 22 = .ok (.aload_n 0, 1) := by decide +kernel
theorem dX3_lineUp_23 : decode cX3_lineUp 23 = .ok (.getfield 43, 3) := by decide +kernel
theorem dX3_lineUp_26 : decode cX3_lineUp 26 = .ok (.iload_n 1, 1) := by decide +kernel
theorem dX3_lineUp_27 : decode cX3_lineUp 27 = .ok (.iconst (-1), 1) := by decide +kernel
theorem dX3_lineUp_28 : decode cX3_lineUp 28 = .ok (.iastore, 1) := by decide +kernel
theorem dX3_lineUp_29 : decode cX3_lineUp 29 = .ok (.iinc 1 1, 3) := by decide +kernel
theorem dX3_lineUp_32 : decode cX3_lineUp 32 = .ok (.goto (-30), 3) := by decide +kernel
theorem dX3_lineUp_35 : decode cX3_lineUp 35 = .ok (.aload_n 0, 1) := by decide +kernel
theorem dX3_lineUp_36 : decode cX3_lineUp 36 = .ok (.iconst 0, 1) := by decide +kernel
theorem dX3_lineUp_37 : decode cX3_lineUp 37 = .ok (.putfield 49, 3) := by decide +kernel
theorem dX3_lineUp_40 : decode cX3_lineUp 40 = .ok (.aload_n 0, 1) := by decide +kernel
theorem dX3_lineUp_41 : decode cX3_lineUp 41 = .ok (.iconst 0, 1) := by decide +kernel
theorem dX3_lineUp_42 : decode cX3_lineUp 42 = .ok (.putfield 55, 3) := by decide +kernel
theorem dX3_lineUp_45 : decode cX3_lineUp 45 = .ok (.return_, 1) := by decide +kernel
theorem dX3_firstAlone_0 : decode cX3_firstAlone 0 = .ok (.iconst (-1), 1) := by decide +kernel
theorem dX3_firstAlone_1 : decode cX3_firstAlone 1 = .ok (.istore_n 1, 1) := by decide +kernel
theorem dX3_firstAlone_2 : decode cX3_firstAlone 2 = .ok (.iconst (-1), 1) := by decide +kernel
theorem dX3_firstAlone_3 : decode cX3_firstAlone 3 = .ok (.istore_n 2, 1) := by decide +kernel
theorem dX3_firstAlone_4 : decode cX3_firstAlone 4 = .ok (.iconst 0, 1) := by decide +kernel
theorem dX3_firstAlone_5 : decode cX3_firstAlone 5 = .ok (.istore_n 3, 1) := by decide +kernel
theorem dX3_firstAlone_6 : decode cX3_firstAlone 6 = .ok (.iload_n 3, 1) := by decide +kernel
theorem dX3_firstAlone_7 : decode cX3_firstAlone 7 = .ok (.aload_n 0, 1) := by decide +kernel
theorem dX3_firstAlone_8 : decode cX3_firstAlone 8 = .ok (.getfield 52, 3) := by decide +kernel
theorem dX3_firstAlone_11 : decode cX3_firstAlone 11 = .ok (.if_icmp .ge 55, 3) := by decide +kernel
theorem dX3_firstAlone_14 : decode cX3_firstAlone 14 = .ok (.aload_n 0, 1) := by decide +kernel
theorem dX3_firstAlone_15 : decode cX3_firstAlone 15 = .ok (.getfield 43, 3) := by decide +kernel
theorem dX3_firstAlone_18 : decode cX3_firstAlone 18 = .ok (.iload_n 3, 1) := by decide +kernel
theorem dX3_firstAlone_19 : decode cX3_firstAlone 19 = .ok (.iaload, 1) := by decide +kernel
theorem dX3_firstAlone_20 : decode cX3_firstAlone 20 = .ok (.ifCond .lt 6, 3) := by decide +kernel
theorem dX3_firstAlone_23 : decode cX3_firstAlone 23 = .ok (.goto 37, 3) := by decide +kernel
theorem dX3_firstAlone_26 : decode cX3_firstAlone 26 = .ok (.aload_n 0, 1) := by decide +kernel
theorem dX3_firstAlone_27 : decode cX3_firstAlone 27 = .ok (.getfield 37, 3) := by decide +kernel
theorem dX3_firstAlone_30 : decode cX3_firstAlone 30 = .ok (.iload_n 3, 1) := by decide +kernel
theorem dX3_firstAlone_31 : decode cX3_firstAlone 31 = .ok (.iaload, 1) := by decide +kernel
theorem dX3_firstAlone_32 : decode cX3_firstAlone 32 = .ok (.iload_n 2, 1) := by decide +kernel
theorem dX3_firstAlone_33 : decode cX3_firstAlone 33 = .ok (.if_icmp .le 15, 3) := by decide +kernel
theorem dX3_firstAlone_36 : decode cX3_firstAlone 36 = .ok (.aload_n 0, 1) := by decide +kernel
theorem dX3_firstAlone_37 : decode cX3_firstAlone 37 = .ok (.getfield 37, 3) := by decide +kernel
theorem dX3_firstAlone_40 : decode cX3_firstAlone 40 = .ok (.iload_n 3, 1) := by decide +kernel
theorem dX3_firstAlone_41 : decode cX3_firstAlone 41 = .ok (.iaload, 1) := by decide +kernel
theorem dX3_firstAlone_42 : decode cX3_firstAlone 42 = .ok (.istore_n 2, 1) := by decide +kernel
theorem dX3_firstAlone_43 : decode cX3_firstAlone 43 = .ok (.iload_n 3, 1) := by decide +kernel
theorem dX3_firstAlone_44 : decode cX3_firstAlone 44 = .ok (.istore_n 1, 1) := by decide +kernel
theorem dX3_firstAlone_45 : decode cX3_firstAlone 45 = .ok (.goto 15, 3) := by decide +kernel
theorem dX3_firstAlone_48 : decode cX3_firstAlone 48 = .ok (.aload_n 0, 1) := by decide +kernel
theorem dX3_firstAlone_49 : decode cX3_firstAlone 49 = .ok (.getfield 37, 3) := by decide +kernel
theorem dX3_firstAlone_52 : decode cX3_firstAlone 52 = .ok (.iload_n 3, 1) := by decide +kernel
theorem dX3_firstAlone_53 : decode cX3_firstAlone 53 = .ok (.iaload, 1) := by decide +kernel
theorem dX3_firstAlone_54 : decode cX3_firstAlone 54 = .ok (.iload_n 2, 1) := by decide +kernel
theorem dX3_firstAlone_55 : decode cX3_firstAlone 55 = .ok (.if_icmp .ne 5, 3) := by decide +kernel
theorem dX3_firstAlone_58 : decode cX3_firstAlone 58 = .ok (.iconst (-1), 1) := by decide +kernel
theorem dX3_firstAlone_59 : decode cX3_firstAlone 59 = .ok (.istore_n 1, 1) := by decide +kernel
theorem dX3_firstAlone_60 : decode cX3_firstAlone 60 = .ok (.iinc 3 1, 3) := by decide +kernel
theorem dX3_firstAlone_63 : decode cX3_firstAlone 63 = .ok (.goto (-57), 3) := by decide +kernel
theorem dX3_firstAlone_66 : decode cX3_firstAlone 66 = .ok (.iload_n 1, 1) := by decide +kernel
theorem dX3_firstAlone_67 : decode cX3_firstAlone 67 = .ok (.ireturn, 1) := by decide +kernel
set_option maxRecDepth 20000 in
theorem ggX3_wishOf_X3_has : GoodIn wsX3_wishOf wsX3_has := goodIn_r _ [13, 14, 38, 39, 40, 41, 42, 43, 44, 45, 46, 47, 48, 49, 50, 51, 52] rfl (by decide +kernel)
set_option maxRecDepth 20000 in
theorem gX3_wishOf_X3_has : GoodIn wsX3_wishOf (wsV RX3 58 RX3 yX3_has wsX3_has) := goodIn_app (goodIn_of _ (by decide +kernel)) ggX3_wishOf_X3_has
set_option maxRecDepth 20000 in
theorem ggX3_wishOf_X3_holderWish : GoodIn wsX3_wishOf wsX3_holderWish := goodIn_r _ [18, 19, 20, 3, 8, 38, 39, 40, 41, 42, 43, 44, 45, 46, 47, 48, 49, 50, 51, 52] rfl (by decide +kernel)
set_option maxRecDepth 20000 in
theorem gX3_wishOf_X3_holderWish : GoodIn wsX3_wishOf (wsV RX3 62 RX3 yX3_holderWish wsX3_holderWish) := goodIn_app (goodIn_of _ (by decide +kernel)) ggX3_wishOf_X3_holderWish
set_option maxRecDepth 20000 in
theorem ggX3_wishOf_X3_keeperWish : GoodIn wsX3_wishOf wsX3_keeperWish := goodIn_r _ [24, 2, 25, 8, 19, 4, 5, 6, 7, 26, 27, 28, 9, 10, 11, 12, 13, 14, 38, 39, 40, 41, 42, 43, 44, 45, 46, 47, 48, 49, 50, 51, 52] rfl (by decide +kernel)
set_option maxRecDepth 20000 in
theorem gX3_wishOf_X3_keeperWish : GoodIn wsX3_wishOf (wsV RX3 66 RX3 yX3_keeperWish wsX3_keeperWish) := goodIn_app (goodIn_of _ (by decide +kernel)) ggX3_wishOf_X3_keeperWish
set_option maxRecDepth 20000 in
theorem ggX3_wishOf_X3_isHome : GoodIn wsX3_wishOf wsX3_isHome := goodIn_r _ [32, 25, 9, 10, 11, 12, 13, 14, 38, 39, 40, 41, 42, 43, 44, 45, 46, 47, 48, 49, 50, 51, 52] rfl (by decide +kernel)
set_option maxRecDepth 20000 in
theorem gX3_wishOf_X3_isHome : GoodIn wsX3_wishOf (wsV RX3 70 RX3 yX3_isHome wsX3_isHome) := goodIn_app (goodIn_of _ (by decide +kernel)) ggX3_wishOf_X3_isHome
set_option maxRecDepth 20000 in
theorem ggX3_wishOf_X3_sprinterWish : GoodIn wsX3_wishOf wsX3_sprinterWish := goodIn_r _ [36, 37, 19, 20, 15, 16, 17, 12, 18, 3, 8, 38, 39, 40, 41, 42, 43, 44, 45, 46, 47, 48, 49, 50, 51, 52] rfl (by decide +kernel)
set_option maxRecDepth 20000 in
theorem gX3_wishOf_X3_sprinterWish : GoodIn wsX3_wishOf (wsV RX3 73 RX3 yX3_sprinterWish wsX3_sprinterWish) := goodIn_app (goodIn_of _ (by decide +kernel)) ggX3_wishOf_X3_sprinterWish
theorem dX3_wishOf_0 : decode cX3_wishOf 0 = .ok (.aload_n 0, 1) := by decide +kernel
theorem dX3_wishOf_1 : decode cX3_wishOf 1 = .ok (.iload_n 1, 1) := by decide +kernel
theorem dX3_wishOf_2 : decode cX3_wishOf 2 = .ok (.invokevirtual 58, 3) := by decide +kernel
theorem dX3_wishOf_5 : decode cX3_wishOf 5 = .ok (.ifCond .ne 5, 3) := by decide +kernel
theorem dX3_wishOf_8 : decode cX3_wishOf 8 = .ok (.iconst 0, 1) := by decide +kernel
theorem dX3_wishOf_9 : decode cX3_wishOf 9 = .ok (.ireturn, 1) := by decide +kernel
theorem dX3_wishOf_10 : decode cX3_wishOf 10 = .ok (.aload_n 0, 1) := by decide +kernel
theorem dX3_wishOf_11 : decode cX3_wishOf 11 = .ok (.getfield 21, 3) := by decide +kernel
theorem dX3_wishOf_14 : decode cX3_wishOf 14 = .ok (.iload_n 1, 1) := by decide +kernel
theorem dX3_wishOf_15 : decode cX3_wishOf 15 = .ok (.iaload, 1) := by decide +kernel
theorem dX3_wishOf_16 : decode cX3_wishOf 16 = .ok (.tableswitch 98 1 5 #[36, 43, 49, 75, 82], 36) := by decide +kernel
theorem dX3_wishOf_52 : decode cX3_wishOf 52 = .ok (.aload_n 0, 1) := by decide +kernel
theorem dX3_wishOf_53 : decode cX3_wishOf 53 = .ok (.iload_n 1, 1) := by decide +kernel
theorem dX3_wishOf_54 : decode cX3_wishOf 54 = .ok (.iload_n 2, 1) := by decide +kernel
theorem dX3_wishOf_55 : decode cX3_wishOf 55 = .ok (.invokevirtual 62, 3) := by decide +kernel
theorem dX3_wishOf_58 : decode cX3_wishOf 58 = .ok (.ireturn, 1) := by decide +kernel
theorem dX3_wishOf_59 : decode cX3_wishOf 59 = .ok (.aload_n 0, 1) := by decide +kernel
theorem dX3_wishOf_60 : decode cX3_wishOf 60 = .ok (.iload_n 1, 1) := by decide +kernel
theorem dX3_wishOf_61 : decode cX3_wishOf 61 = .ok (.invokevirtual 66, 3) := by decide +kernel
theorem dX3_wishOf_64 : decode cX3_wishOf 64 = .ok (.ireturn, 1) := by decide +kernel
theorem dX3_wishOf_65 : decode cX3_wishOf 65 = .ok (.aload_n 0, 1) := by decide +kernel
theorem dX3_wishOf_66 : decode cX3_wishOf 66 = .ok (.aload_n 0, 1) := by decide +kernel
theorem dX3_wishOf_67 : decode cX3_wishOf 67 = .ok (.getfield 31, 3) := by decide +kernel
theorem dX3_wishOf_70 : decode cX3_wishOf 70 = .ok (.iload_n 1, 1) := by decide +kernel
theorem dX3_wishOf_71 : decode cX3_wishOf 71 = .ok (.iaload, 1) := by decide +kernel
theorem dX3_wishOf_72 : decode cX3_wishOf 72 = .ok (.invokevirtual 70, 3) := by decide +kernel
theorem dX3_wishOf_75 : decode cX3_wishOf 75 = .ok (.ifCond .eq 10, 3) := by decide +kernel
theorem dX3_wishOf_78 : decode cX3_wishOf 78 = .ok (.aload_n 0, 1) := by decide +kernel
theorem dX3_wishOf_79 : decode cX3_wishOf 79 = .ok (.getfield 15, 3) := by decide +kernel
theorem dX3_wishOf_82 : decode cX3_wishOf 82 = .ok (.goto 8, 3) := by decide +kernel
theorem dX3_wishOf_85 : decode cX3_wishOf 85 = .ok (.aload_n 0, 1) := by decide +kernel
theorem dX3_wishOf_86 : decode cX3_wishOf 86 = .ok (.iload_n 1, 1) := by decide +kernel
theorem dX3_wishOf_87 : decode cX3_wishOf 87 = .ok (.invokevirtual 66, 3) := by decide +kernel
theorem dX3_wishOf_90 : decode cX3_wishOf 90 = .ok (.ireturn, 1) := by decide +kernel
theorem dX3_wishOf_91 : decode cX3_wishOf 91 = .ok (.aload_n 0, 1) := by decide +kernel
theorem dX3_wishOf_92 : decode cX3_wishOf 92 = .ok (.iload_n 1, 1) := by decide +kernel
theorem dX3_wishOf_93 : decode cX3_wishOf 93 = .ok (.iload_n 2, 1) := by decide +kernel
theorem dX3_wishOf_94 : decode cX3_wishOf 94 = .ok (.invokevirtual 73, 3) := by decide +kernel
theorem dX3_wishOf_97 : decode cX3_wishOf 97 = .ok (.ireturn, 1) := by decide +kernel
theorem dX3_wishOf_98 : decode cX3_wishOf 98 = .ok (.aload_n 0, 1) := by decide +kernel
theorem dX3_wishOf_99 : decode cX3_wishOf 99 = .ok (.iload_n 1, 1) := by decide +kernel
theorem dX3_wishOf_100 : decode cX3_wishOf 100 = .ok (.iload_n 2, 1) := by decide +kernel
theorem dX3_wishOf_101 : decode cX3_wishOf 101 = .ok (.invokevirtual 62, 3) := by decide +kernel
theorem dX3_wishOf_104 : decode cX3_wishOf 104 = .ok (.aload_n 0, 1) := by decide +kernel
theorem dX3_wishOf_105 : decode cX3_wishOf 105 = .ok (.getfield 15, 3) := by decide +kernel
theorem dX3_wishOf_108 : decode cX3_wishOf 108 = .ok (.iconst 2, 1) := by decide +kernel
theorem dX3_wishOf_109 : decode cX3_wishOf 109 = .ok (.iadd, 1) := by decide +kernel
theorem dX3_wishOf_110 : decode cX3_wishOf 110 = .ok (.invokestatic 76, 3) := by decide +kernel
theorem dX3_wishOf_113 : decode cX3_wishOf 113 = .ok (.ireturn, 1) := by decide +kernel
theorem dX3_wishOf_114 : decode cX3_wishOf 114 = .ok (.aload_n 0, 1) := by decide +kernel
theorem dX3_wishOf_115 : decode cX3_wishOf 115 = .ok (.getfield 25, 3) := by decide +kernel
theorem dX3_wishOf_118 : decode cX3_wishOf 118 = .ok (.iload_n 1, 1) := by decide +kernel
theorem dX3_wishOf_119 : decode cX3_wishOf 119 = .ok (.iaload, 1) := by decide +kernel
theorem dX3_wishOf_120 : decode cX3_wishOf 120 = .ok (.ireturn, 1) := by decide +kernel
theorem dX3_holderWish_0 : decode cX3_holderWish 0 = .ok (.iload_n 1, 1) := by decide +kernel
theorem dX3_holderWish_1 : decode cX3_holderWish 1 = .ok (.iload_n 2, 1) := by decide +kernel
theorem dX3_holderWish_2 : decode cX3_holderWish 2 = .ok (.if_icmp .ne 27, 3) := by decide +kernel
theorem dX3_holderWish_5 : decode cX3_holderWish 5 = .ok (.iconst 4, 1) := by decide +kernel
theorem dX3_holderWish_6 : decode cX3_holderWish 6 = .ok (.aload_n 0, 1) := by decide +kernel
theorem dX3_holderWish_7 : decode cX3_holderWish 7 = .ok (.getfield 37, 3) := by decide +kernel
theorem dX3_holderWish_10 : decode cX3_holderWish 10 = .ok (.iload_n 1, 1) := by decide +kernel
theorem dX3_holderWish_11 : decode cX3_holderWish 11 = .ok (.iaload, 1) := by decide +kernel
theorem dX3_holderWish_12 : decode cX3_holderWish 12 = .ok (.imul, 1) := by decide +kernel
theorem dX3_holderWish_13 : decode cX3_holderWish 13 = .ok (.iconst 3, 1) := by decide +kernel
theorem dX3_holderWish_14 : decode cX3_holderWish 14 = .ok (.aload_n 0, 1) := by decide +kernel
theorem dX3_holderWish_15 : decode cX3_holderWish 15 = .ok (.getfield 9, 3) := by decide +kernel
theorem dX3_holderWish_18 : decode cX3_holderWish 18 = .ok (.imul, 1) := by decide +kernel
theorem dX3_holderWish_19 : decode cX3_holderWish 19 = .ok (.if_icmp .lt 10, 3) := by decide +kernel
theorem dX3_holderWish_22 : decode cX3_holderWish 22 = .ok (.aload_n 0, 1) := by decide +kernel
theorem dX3_holderWish_23 : decode cX3_holderWish 23 = .ok (.getfield 15, 3) := by decide +kernel
theorem dX3_holderWish_26 : decode cX3_holderWish 26 = .ok (.goto 9, 3) := by decide +kernel
theorem dX3_holderWish_29 : decode cX3_holderWish 29 = .ok (.aload_n 0, 1) := by decide +kernel
theorem dX3_holderWish_30 : decode cX3_holderWish 30 = .ok (.getfield 25, 3) := by decide +kernel
theorem dX3_holderWish_33 : decode cX3_holderWish 33 = .ok (.iload_n 1, 1) := by decide +kernel
theorem dX3_holderWish_34 : decode cX3_holderWish 34 = .ok (.iaload, 1) := by decide +kernel
theorem dX3_holderWish_35 : decode cX3_holderWish 35 = .ok (.ireturn, 1) := by decide +kernel
set_option maxRecDepth 20000 in
theorem ggX3_keeperWish_X3_has : GoodIn wsX3_keeperWish wsX3_has := goodIn_r _ [16, 17, 18, 19, 20, 21, 22, 23, 24, 25, 26, 27, 28, 29, 30, 31, 32] rfl (by decide +kernel)
set_option maxRecDepth 20000 in
theorem gX3_keeperWish_X3_has : GoodIn wsX3_keeperWish (wsV RX3 58 RX3 yX3_has wsX3_has) := goodIn_app (goodIn_of _ (by decide +kernel)) ggX3_keeperWish_X3_has
theorem dX3_keeperWish_0 : decode cX3_keeperWish 0 = .ok (.aload_n 0, 1) := by decide +kernel
theorem dX3_keeperWish_1 : decode cX3_keeperWish 1 = .ok (.getfield 31, 3) := by decide +kernel
theorem dX3_keeperWish_4 : decode cX3_keeperWish 4 = .ok (.iload_n 1, 1) := by decide +kernel
theorem dX3_keeperWish_5 : decode cX3_keeperWish 5 = .ok (.iaload, 1) := by decide +kernel
theorem dX3_keeperWish_6 : decode cX3_keeperWish 6 = .ok (.istore_n 2, 1) := by decide +kernel
theorem dX3_keeperWish_7 : decode cX3_keeperWish 7 = .ok (.aload_n 0, 1) := by decide +kernel
theorem dX3_keeperWish_8 : decode cX3_keeperWish 8 = .ok (.iload_n 2, 1) := by decide +kernel
theorem dX3_keeperWish_9 : decode cX3_keeperWish 9 = .ok (.invokevirtual 58, 3) := by decide +kernel
theorem dX3_keeperWish_12 : decode cX3_keeperWish 12 = .ok (.ifCond .eq 12, 3) := by decide +kernel
theorem dX3_keeperWish_15 : decode cX3_keeperWish 15 = .ok (.aload_n 0, 1) := by decide +kernel
theorem dX3_keeperWish_16 : decode cX3_keeperWish 16 = .ok (.getfield 43, 3) := by decide +kernel
theorem dX3_keeperWish_19 : decode cX3_keeperWish 19 = .ok (.iload_n 2, 1) := by decide +kernel
theorem dX3_keeperWish_20 : decode cX3_keeperWish 20 = .ok (.iaload, 1) := by decide +kernel
theorem dX3_keeperWish_21 : decode cX3_keeperWish 21 = .ok (.ifCond .lt 10, 3) := by decide +kernel
theorem dX3_keeperWish_24 : decode cX3_keeperWish 24 = .ok (.aload_n 0, 1) := by decide +kernel
theorem dX3_keeperWish_25 : decode cX3_keeperWish 25 = .ok (.getfield 25, 3) := by decide +kernel
theorem dX3_keeperWish_28 : decode cX3_keeperWish 28 = .ok (.iload_n 1, 1) := by decide +kernel
theorem dX3_keeperWish_29 : decode cX3_keeperWish 29 = .ok (.iaload, 1) := by decide +kernel
theorem dX3_keeperWish_30 : decode cX3_keeperWish 30 = .ok (.ireturn, 1) := by decide +kernel
theorem dX3_keeperWish_31 : decode cX3_keeperWish 31 = .ok (.iconst 1, 1) := by decide +kernel
theorem dX3_keeperWish_32 : decode cX3_keeperWish 32 = .ok (.aload_n 0, 1) := by decide +kernel
theorem dX3_keeperWish_33 : decode cX3_keeperWish 33 = .ok (.getfield 25, 3) := by decide +kernel
theorem dX3_keeperWish_36 : decode cX3_keeperWish 36 = .ok (.iload_n 1, 1) := by decide +kernel
theorem dX3_keeperWish_37 : decode cX3_keeperWish 37 = .ok (.iaload, 1) := by decide +kernel
theorem dX3_keeperWish_38 : decode cX3_keeperWish 38 = .ok (.aload_n 0, 1) := by decide +kernel
theorem dX3_keeperWish_39 : decode cX3_keeperWish 39 = .ok (.getfield 37, 3) := by decide +kernel
theorem dX3_keeperWish_42 : decode cX3_keeperWish 42 = .ok (.iload_n 2, 1) := by decide +kernel
theorem dX3_keeperWish_43 : decode cX3_keeperWish 43 = .ok (.iaload, 1) := by decide +kernel
theorem dX3_keeperWish_44 : decode cX3_keeperWish 44 = .ok (.aload_n 0, 1) := by decide +kernel
theorem dX3_keeperWish_45 : decode cX3_keeperWish 45 = .ok (.getfield 37, 3) := by decide +kernel
theorem dX3_keeperWish_48 : decode cX3_keeperWish 48 = .ok (.iload_n 1, 1) := by decide +kernel
theorem dX3_keeperWish_49 : decode cX3_keeperWish 49 = .ok (.iaload, 1) := by decide +kernel
theorem dX3_keeperWish_50 : decode cX3_keeperWish 50 = .ok (.isub, 1) := by decide +kernel
theorem dX3_keeperWish_51 : decode cX3_keeperWish 51 = .ok (.invokestatic 76, 3) := by decide +kernel
theorem dX3_keeperWish_54 : decode cX3_keeperWish 54 = .ok (.invokestatic 81, 3) := by decide +kernel
theorem dX3_keeperWish_57 : decode cX3_keeperWish 57 = .ok (.ireturn, 1) := by decide +kernel
set_option maxRecDepth 20000 in
theorem ggX3_sprinterWish_X3_holderWish : GoodIn wsX3_sprinterWish wsX3_holderWish := goodIn_r _ [8, 2, 3, 9, 10, 11, 12, 13, 14, 15, 16, 17, 18, 19, 20, 21, 22, 23, 24, 25] rfl (by decide +kernel)
set_option maxRecDepth 20000 in
theorem gX3_sprinterWish_X3_holderWish : GoodIn wsX3_sprinterWish (wsV RX3 62 RX3 yX3_holderWish wsX3_holderWish) := goodIn_app (goodIn_of _ (by decide +kernel)) ggX3_sprinterWish_X3_holderWish
theorem dX3_sprinterWish_0 : decode cX3_sprinterWish 0 = .ok (.iload_n 1, 1) := by decide +kernel
theorem dX3_sprinterWish_1 : decode cX3_sprinterWish 1 = .ok (.iload_n 2, 1) := by decide +kernel
theorem dX3_sprinterWish_2 : decode cX3_sprinterWish 2 = .ok (.if_icmp .ne 14, 3) := by decide +kernel
theorem dX3_sprinterWish_5 : decode cX3_sprinterWish 5 = .ok (.aload_n 0, 1) := by decide +kernel
theorem dX3_sprinterWish_6 : decode cX3_sprinterWish 6 = .ok (.getfield 55, 3) := by decide +kernel
theorem dX3_sprinterWish_9 : decode cX3_sprinterWish 9 = .ok (.ifCond .ne 7, 3) := by decide +kernel
theorem dX3_sprinterWish_12 : decode cX3_sprinterWish 12 = .ok (.iconst 1, 1) := by decide +kernel
theorem dX3_sprinterWish_13 : decode cX3_sprinterWish 13 = .ok (.goto 4, 3) := by decide +kernel
theorem dX3_sprinterWish_16 : decode cX3_sprinterWish 16 = .ok (.iconst 0, 1) := by decide +kernel
theorem dX3_sprinterWish_17 : decode cX3_sprinterWish 17 = .ok (.istore_n 3, 1) := by decide +kernel
theorem dX3_sprinterWish_18 : decode cX3_sprinterWish 18 = .ok (.aload_n 0, 1) := by decide +kernel
theorem dX3_sprinterWish_19 : decode cX3_sprinterWish 19 = .ok (.iload_n 1, 1) := by decide +kernel
theorem dX3_sprinterWish_20 : decode cX3_sprinterWish 20 = .ok (.iload_n 2, 1) := by decide +kernel
theorem dX3_sprinterWish_21 : decode cX3_sprinterWish 21 = .ok (.invokevirtual 62, 3) := by decide +kernel
theorem dX3_sprinterWish_24 : decode cX3_sprinterWish 24 = .ok (.istore 4, 2) := by decide +kernel
theorem dX3_sprinterWish_26 : decode cX3_sprinterWish 26 = .ok (.aload_n 0, 1) := by decide +kernel
theorem dX3_sprinterWish_27 : decode cX3_sprinterWish 27 = .ok (.getfield 37, 3) := by decide +kernel
theorem dX3_sprinterWish_30 : decode cX3_sprinterWish 30 = .ok (.iload_n 1, 1) := by decide +kernel
theorem dX3_sprinterWish_31 : decode cX3_sprinterWish 31 = .ok (.iaload, 1) := by decide +kernel
theorem dX3_sprinterWish_32 : decode cX3_sprinterWish 32 = .ok (.aload_n 0, 1) := by decide +kernel
theorem dX3_sprinterWish_33 : decode cX3_sprinterWish 33 = .ok (.getfield 9, 3) := by decide +kernel
theorem dX3_sprinterWish_36 : decode cX3_sprinterWish 36 = .ok (.bipush 40, 2) := by decide +kernel
theorem dX3_sprinterWish_38 : decode cX3_sprinterWish 38 = .ok (.isub, 1) := by decide +kernel
theorem dX3_sprinterWish_39 : decode cX3_sprinterWish 39 = .ok (.if_icmp .lt 14, 3) := by decide +kernel
theorem dX3_sprinterWish_42 : decode cX3_sprinterWish 42 = .ok (.iload_n 3, 1) := by decide +kernel
theorem dX3_sprinterWish_43 : decode cX3_sprinterWish 43 = .ok (.ifCond .ne 10, 3) := by decide +kernel
theorem dX3_sprinterWish_46 : decode cX3_sprinterWish 46 = .ok (.iconst 2, 1) := by decide +kernel
theorem dX3_sprinterWish_47 : decode cX3_sprinterWish 47 = .ok (.iload 4, 2) := by decide +kernel
theorem dX3_sprinterWish_49 : decode cX3_sprinterWish 49 = .ok (.imul, 1) := by decide +kernel
theorem dX3_sprinterWish_50 : decode cX3_sprinterWish 50 = .ok (.goto 5, 3) := by decide +kernel
theorem dX3_sprinterWish_53 : decode cX3_sprinterWish 53 = .ok (.iload 4, 2) := by decide +kernel
theorem dX3_sprinterWish_55 : decode cX3_sprinterWish 55 = .ok (.ireturn, 1) := by decide +kernel
set_option maxRecDepth 20000 in
theorem ggX3_goOn_X3_allHome : GoodIn wsX3_goOn wsX3_allHome := goodIn_r _ [5, 6, 7, 61, 62, 63, 64, 65, 66, 67, 68, 69, 70, 71, 72, 73, 74, 75] rfl (by decide +kernel)
set_option maxRecDepth 20000 in
theorem gX3_goOn_X3_allHome : GoodIn wsX3_goOn (wsV RX3 84 RX3 yX3_allHome wsX3_allHome) := goodIn_app (goodIn_of _ (by decide +kernel)) ggX3_goOn_X3_allHome
set_option maxRecDepth 20000 in
theorem ggX3_goOn_X3_goSecond : GoodIn wsX3_goOn wsX3_goSecond := goodIn_r _ [11, 7, 12, 13, 14, 15, 16, 17, 18, 19, 20, 21, 6, 22, 23, 24, 4, 25, 26, 27, 28, 29, 30, 31, 32, 33, 34, 35, 36, 37, 38, 39, 40, 41, 42, 43, 44, 45, 46, 47, 48, 49, 50, 51, 52, 53, 54, 55, 56, 57, 58, 59, 60, 61, 62, 63, 64, 65, 66, 67, 68, 69, 70, 71, 72, 73, 74, 75] rfl (by decide +kernel)
set_option maxRecDepth 20000 in
theorem gX3_goOn_X3_goSecond : GoodIn wsX3_goOn (wsV RX3 88 RX3 yX3_goSecond wsX3_goSecond) := goodIn_app (goodIn_of _ (by decide +kernel)) ggX3_goOn_X3_goSecond
theorem dX3_goOn_0 : decode cX3_goOn 0 = .ok (.iconst 0, 1) := by decide +kernel
theorem dX3_goOn_1 : decode cX3_goOn 1 = .ok (.istore_n 2, 1) := by decide +kernel
theorem dX3_goOn_2 : decode cX3_goOn 2 = .ok (.iload_n 2, 1) := by decide +kernel
theorem dX3_goOn_3 : decode cX3_goOn 3 = .ok (.iload_n 1, 1) := by decide +kernel
theorem dX3_goOn_4 : decode cX3_goOn 4 = .ok (.if_icmp .ge 20, 3) := by decide +kernel
theorem dX3_goOn_7 : decode cX3_goOn 7 = .ok (.aload_n 0, 1) := by decide +kernel
theorem dX3_goOn_8 : decode cX3_goOn 8 = .ok (.invokevirtual 84, 3) := by decide +kernel
theorem dX3_goOn_11 : decode cX3_goOn 11 = .ok (.ifCond .ne 13, 3) := by decide +kernel
theorem dX3_goOn_14 : decode cX3_goOn 14 = .ok (.aload_n 0, 1) := by decide +kernel
theorem dX3_goOn_15 : decode cX3_goOn 15 = .ok (.invokevirtual 88, 3) := by decide +kernel
theorem dX3_goOn_18 : decode cX3_goOn 18 = .ok (.iinc 2 1, 3) := by decide +kernel
theorem dX3_goOn_21 : decode cX3_goOn 21 = .ok (.goto (-19), 3) := by decide +kernel
theorem dX3_goOn_24 : decode cX3_goOn 24 = .ok (.return_, 1) := by decide +kernel
set_option maxRecDepth 20000 in
theorem ggX3_goSecond_X3_firstAlone : GoodIn wsX3_goSecond wsX3_firstAlone := goodIn_r _ [17, 1, 3, 10, 53, 54, 55, 56, 57, 58, 59, 60, 61, 62, 63, 64, 65, 66, 67] rfl (by decide +kernel)
set_option maxRecDepth 20000 in
theorem gX3_goSecond_X3_firstAlone : GoodIn wsX3_goSecond (wsV RX3 91 RX3 yX3_firstAlone wsX3_firstAlone) := goodIn_app (goodIn_of _ (by decide +kernel)) ggX3_goSecond_X3_firstAlone
set_option maxRecDepth 20000 in
theorem ggX3_goSecond_X3_wishOf : GoodIn wsX3_goSecond wsX3_wishOf := goodIn_r _ [21, 22, 23, 4, 24, 25, 7, 26, 27, 28, 29, 30, 16, 31, 1, 32, 33, 34, 35, 10, 11, 36, 37, 38, 39, 3, 5, 6, 8, 40, 41, 42, 43, 44, 45, 46, 47, 12, 53, 54, 55, 56, 57, 58, 59, 60, 61, 62, 63, 64, 65, 66, 67] rfl (by decide +kernel)
set_option maxRecDepth 20000 in
theorem gX3_goSecond_X3_wishOf : GoodIn wsX3_goSecond (wsV RX3 95 RX3 yX3_wishOf wsX3_wishOf) := goodIn_app (goodIn_of _ (by decide +kernel)) ggX3_goSecond_X3_wishOf
set_option maxRecDepth 20000 in
theorem ggX3_goSecond_X3_strideOf : GoodIn wsX3_goSecond wsX3_strideOf := goodIn_r _ [51, 52, 4, 5, 6, 7, 8, 24, 25, 26, 53, 54, 55, 56, 57, 58, 59, 60, 61, 62, 63, 64, 65, 66, 67] rfl (by decide +kernel)
set_option maxRecDepth 20000 in
theorem gX3_goSecond_X3_strideOf : GoodIn wsX3_goSecond (wsV RX3 98 RX3 yX3_strideOf wsX3_strideOf) := goodIn_app (goodIn_of _ (by decide +kernel)) ggX3_goSecond_X3_strideOf
theorem dX3_goSecond_0 : decode cX3_goSecond 0 = .ok (.aload_n 0, 1) := by decide +kernel
theorem dX3_goSecond_1 : decode cX3_goSecond 1 = .ok (.invokevirtual 91, 3) := by decide +kernel
theorem dX3_goSecond_4 : decode cX3_goSecond 4 = .ok (.istore_n 1, 1) := by decide +kernel
theorem dX3_goSecond_5 : decode cX3_goSecond 5 = .ok (.iconst 0, 1) := by decide +kernel
theorem dX3_goSecond_6 : decode cX3_goSecond 6 = .ok (.istore_n 2, 1) := by decide +kernel
theorem dX3_goSecond_7 : decode cX3_goSecond 7 = .ok (.iload_n 2, 1) := by decide +kernel
theorem dX3_goSecond_8 : decode cX3_goSecond 8 = .ok (.aload_n 0, 1) := by decide +kernel
theorem dX3_goSecond_9 : decode cX3_goSecond 9 = .ok (.getfield 52, 3) := by decide +kernel
theorem dX3_goSecond_12 : decode cX3_goSecond 12 = .ok (.if_icmp .ge 46, 3) := by decide +kernel
theorem dX3_goSecond_15 : decode cX3_goSecond 15 = .ok (.aload_n 0, 1) := by decide +kernel
theorem dX3_goSecond_16 : decode cX3_goSecond 16 = .ok (.getfield 46, 3) := by decide +kernel
theorem dX3_goSecond_19 : decode cX3_goSecond 19 = .ok (.iload_n 2, 1) := by decide +kernel
theorem dX3_goSecond_20 : decode cX3_goSecond 20 = .ok (.aload_n 0, 1) := by decide +kernel
theorem dX3_goSecond_21 : decode cX3_goSecond 21 = .ok (.getfield 43, 3) := by decide +kernel
theorem dX3_goSecond_24 : decode cX3_goSecond 24 = .ok (.iload_n 2, 1) := by decide +kernel
theorem dX3_goSecond_25 : decode cX3_goSecond 25 = .ok (.iaload, 1) := by decide +kernel
theorem dX3_goSecond_26 : decode cX3_goSecond 26 = .ok (.ifCond .lt 7, 3) := by decide +kernel
theorem dX3_goSecond_29 : decode cX3_goSecond 29 = .ok (.iconst 0, 1) := by decide +kernel
theorem dX3_goSecond_30 : decode cX3_goSecond 30 = .ok (.goto 21, 3) := by decide +kernel
theorem dX3_goSecond_33 : decode cX3_goSecond 33 = .ok (.aload_n 0, 1) := by decide +kernel
theorem dX3_goSecond_34 : decode cX3_goSecond 34 = .ok (.iload_n 2, 1) := by decide +kernel
