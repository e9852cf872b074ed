theorem dX4_kind_5 : decode cX4_kind 5 = .ok (.invokevirtual 73, 3) := by decide +kernel
theorem dX4_kind_8 : decode cX4_kind 8 = .ok (.ifCond .ne 10, 3) := by decide +kernel
theorem dX4_kind_11 : decode cX4_kind 11 = .ok (.aload_n 0, 1) := by decide +kernel
theorem dX4_kind_12 : decode cX4_kind 12 = .ok (.ldc 50, 2) := by decide +kernel
theorem dX4_kind_14 : decode cX4_kind 14 = .ok (.invokevirtual 51, 3) := by decide +kernel
theorem dX4_kind_17 : decode cX4_kind 17 = .ok (.ireturn, 1) := by decide +kernel
theorem dX4_kind_18 : decode cX4_kind 18 = .ok (.iconst 0, 1) := by decide +kernel
theorem dX4_kind_19 : decode cX4_kind 19 = .ok (.istore_n 2, 1) := by decide +kernel
theorem dX4_kind_20 : decode cX4_kind 20 = .ok (.iload_n 2, 1) := by decide +kernel
theorem dX4_kind_21 : decode cX4_kind 21 = .ok (.bipush 6, 2) := by decide +kernel
theorem dX4_kind_23 : decode cX4_kind 23 = .ok (.if_icmp .ge 31, 3) := by decide +kernel
theorem dX4_kind_26 : decode cX4_kind 26 = .ok (.aload_n 0, 1) := by decide +kernel
theorem dX4_kind_27 : decode cX4_kind 27 = .ok (.invokevirtual 174, 3) := by decide +kernel
theorem dX4_kind_30 : decode cX4_kind 30 = .ok (.astore_n 3, 1) := by decide +kernel
theorem dX4_kind_31 : decode cX4_kind 31 = .ok (.aload_n 3, 1) := by decide +kernel
theorem dX4_kind_32 : decode cX4_kind 32 = .ok (.getfield 76, 3) := by decide +kernel
theorem dX4_kind_35 : decode cX4_kind 35 = .ok (.iload_n 1, 1) := by decide +kernel
theorem dX4_kind_36 : decode cX4_kind 36 = .ok (.iload_n 2, 1) := by decide +kernel
theorem dX4_kind_37 : decode cX4_kind 37 = .ok (.iastore, 1) := by decide +kernel
theorem dX4_kind_38 : decode cX4_kind 38 = .ok (.aload_n 3, 1) := by decide +kernel
theorem dX4_kind_39 : decode cX4_kind 39 = .ok (.invokevirtual 185, 3) := by decide +kernel
theorem dX4_kind_42 : decode cX4_kind 42 = .ok (.iload_n 1, 1) := by decide +kernel
theorem dX4_kind_43 : decode cX4_kind 43 = .ok (.if_icmp .ne 5, 3) := by decide +kernel
theorem dX4_kind_46 : decode cX4_kind 46 = .ok (.iload_n 2, 1) := by decide +kernel
theorem dX4_kind_47 : decode cX4_kind 47 = .ok (.ireturn, 1) := by decide +kernel
theorem dX4_kind_48 : decode cX4_kind 48 = .ok (.iinc 2 1, 3) := by decide +kernel
theorem dX4_kind_51 : decode cX4_kind 51 = .ok (.goto (-31), 3) := by decide +kernel
theorem dX4_kind_54 : decode cX4_kind 54 = .ok (.aload_n 0, 1) := by decide +kernel
theorem dX4_kind_55 : decode cX4_kind 55 = .ok (.ldc 178, 2) := by decide +kernel
theorem dX4_kind_57 : decode cX4_kind 57 = .ok (.invokevirtual 51, 3) := by decide +kernel
theorem dX4_kind_60 : decode cX4_kind 60 = .ok (.ireturn, 1) := by decide +kernel
set_option maxRecDepth 20000 in
theorem ggX4_start_X3_has : GoodIn wsX4_start wsX3_has := goodIn_r _ [10, 11, 120, 121, 122, 123, 124, 125, 126, 127, 128, 129, 130, 131, 132, 133, 134] rfl (by decide +kernel)
set_option maxRecDepth 20000 in
theorem gX4_start_X3_has : GoodIn wsX4_start (wsV RX4 73 RX3 yX3_has wsX3_has) := goodIn_app (goodIn_of _ (by decide +kernel)) ggX4_start_X3_has
set_option maxRecDepth 20000 in
theorem ggX4_start_X4_found : GoodIn wsX4_start wsX4_found := goodIn_r _ [16, 2, 17, 113, 114, 115, 116, 117, 118, 119] rfl (by decide +kernel)
set_option maxRecDepth 20000 in
theorem gX4_start_X4_found : GoodIn wsX4_start (wsV RX4 51 RX4 yX4_found wsX4_found) := goodIn_app (goodIn_of _ (by decide +kernel)) ggX4_start_X4_found
set_option maxRecDepth 20000 in
theorem ggX4_start_X4_tryOut : GoodIn wsX4_start wsX4_tryOut := goodIn_r _ [21, 22, 1, 23, 24, 25, 9, 26, 27, 28, 29, 30, 11, 31, 32, 33, 34, 35, 36, 37, 38, 39, 113, 114, 115, 116, 117, 118, 119, 120, 121, 122, 123, 124, 125, 126, 127, 128, 129, 130, 131, 132, 133, 134] rfl (by decide +kernel)
set_option maxRecDepth 20000 in
theorem gX4_start_X4_tryOut : GoodIn wsX4_start (wsV RX4 174 RX4 yX4_tryOut wsX4_tryOut) := goodIn_app (goodIn_of _ (by decide +kernel)) ggX4_start_X4_tryOut
set_option maxRecDepth 20000 in
theorem ggX4_start_X3_raceOwner : GoodIn wsX4_start wsX3_raceOwner := goodIn_r _ [43, 29, 44, 45, 46, 9, 47, 11, 37, 36, 39, 30, 31, 48, 49, 50, 51, 52, 53, 54, 55, 56, 57, 58, 59, 60, 28, 61, 62, 63, 64, 27, 65, 66, 67, 68, 69, 70, 71, 72, 32, 35, 73, 74, 75, 33, 76, 7, 8, 10, 77, 78, 79, 80, 81, 82, 83, 84, 85, 86, 87, 88, 89, 90, 91, 92, 93, 94, 95, 96, 34, 97, 98, 99, 100, 101, 102, 103, 104, 105, 106, 107, 108, 109, 110, 111, 112, 120, 121, 122, 123, 124, 125, 126, 127, 128, 129, 130, 131, 132, 133, 134] rfl (by decide +kernel)
set_option maxRecDepth 20000 in
theorem gX4_start_X3_raceOwner : GoodIn wsX4_start (wsV RX4 185 RX3 yX3_raceOwner wsX3_raceOwner) := goodIn_app (goodIn_of _ (by decide +kernel)) ggX4_start_X3_raceOwner
theorem dX4_start_0 : decode cX4_start 0 = .ok (.aload_n 0, 1) := by decide +kernel
theorem dX4_start_1 : decode cX4_start 1 = .ok (.getfield 10, 3) := by decide +kernel
theorem dX4_start_4 : decode cX4_start 4 = .ok (.iload_n 1, 1) := by decide +kernel
theorem dX4_start_5 : decode cX4_start 5 = .ok (.invokevirtual 73, 3) := by decide +kernel
theorem dX4_start_8 : decode cX4_start 8 = .ok (.ifCond .ne 10, 3) := by decide +kernel
theorem dX4_start_11 : decode cX4_start 11 = .ok (.aload_n 0, 1) := by decide +kernel
theorem dX4_start_12 : decode cX4_start 12 = .ok (.ldc 50, 2) := by decide +kernel
theorem dX4_start_14 : decode cX4_start 14 = .ok (.invokevirtual 51, 3) := by decide +kernel
theorem dX4_start_17 : decode cX4_start 17 = .ok (.ireturn, 1) := by decide +kernel
theorem dX4_start_18 : decode cX4_start 18 = .ok (.iconst 0, 1) := by decide +kernel
theorem dX4_start_19 : decode cX4_start 19 = .ok (.istore_n 2, 1) := by decide +kernel
theorem dX4_start_20 : decode cX4_start 20 = .ok (.iload_n 2, 1) := by decide +kernel
theorem dX4_start_21 : decode cX4_start 21 = .ok (.sipush 200, 3) := by decide +kernel
theorem dX4_start_24 : decode cX4_start 24 = .ok (.if_icmp .gt 42, 3) := by decide +kernel
theorem dX4_start_27 : decode cX4_start 27 = .ok (.iload_n 2, 1) := by decide +kernel
theorem dX4_start_28 : decode cX4_start 28 = .ok (.aload_n 0, 1) := by decide +kernel
theorem dX4_start_29 : decode cX4_start 29 = .ok (.getfield 10, 3) := by decide +kernel
theorem dX4_start_32 : decode cX4_start 32 = .ok (.getfield 145, 3) := by decide +kernel
theorem dX4_start_35 : decode cX4_start 35 = .ok (.if_icmp .ge 31, 3) := by decide +kernel
theorem dX4_start_38 : decode cX4_start 38 = .ok (.aload_n 0, 1) := by decide +kernel
theorem dX4_start_39 : decode cX4_start 39 = .ok (.invokevirtual 174, 3) := by decide +kernel
theorem dX4_start_42 : decode cX4_start 42 = .ok (.astore_n 3, 1) := by decide +kernel
theorem dX4_start_43 : decode cX4_start 43 = .ok (.aload_n 3, 1) := by decide +kernel
theorem dX4_start_44 : decode cX4_start 44 = .ok (.getfield 88, 3) := by decide +kernel
theorem dX4_start_47 : decode cX4_start 47 = .ok (.iload_n 1, 1) := by decide +kernel
theorem dX4_start_48 : decode cX4_start 48 = .ok (.iload_n 2, 1) := by decide +kernel
theorem dX4_start_49 : decode cX4_start 49 = .ok (.iastore, 1) := by decide +kernel
theorem dX4_start_50 : decode cX4_start 50 = .ok (.aload_n 3, 1) := by decide +kernel
theorem dX4_start_51 : decode cX4_start 51 = .ok (.invokevirtual 185, 3) := by decide +kernel
theorem dX4_start_54 : decode cX4_start 54 = .ok (.iload_n 1, 1) := by decide +kernel
theorem dX4_start_55 : decode cX4_start 55 = .ok (.if_icmp .ne 5, 3) := by decide +kernel
theorem dX4_start_58 : decode cX4_start 58 = .ok (.iload_n 2, 1) := by decide +kernel
theorem dX4_start_59 : decode cX4_start 59 = .ok (.ireturn, 1) := by decide +kernel
theorem dX4_start_60 : decode cX4_start 60 = .ok (.iinc 2 5, 3) := by decide +kernel
theorem dX4_start_63 : decode cX4_start 63 = .ok (.goto (-43), 3) := by decide +kernel
theorem dX4_start_66 : decode cX4_start 66 = .ok (.aload_n 0, 1) := by decide +kernel
theorem dX4_start_67 : decode cX4_start 67 = .ok (.ldc 178, 2) := by decide +kernel
theorem dX4_start_69 : decode cX4_start 69 = .ok (.invokevirtual 51, 3) := by decide +kernel
theorem dX4_start_72 : decode cX4_start 72 = .ok (.ireturn, 1) := by decide +kernel
set_option maxRecDepth 20000 in
theorem ggX4_favours_X3_has : GoodIn wsX4_favours wsX3_has := goodIn_r _ [8, 9, 115, 116, 117, 118, 119, 120, 121, 122, 123, 124, 125, 126, 127, 128, 129] rfl (by decide +kernel)
set_option maxRecDepth 20000 in
theorem gX4_favours_X3_has : GoodIn wsX4_favours (wsV RX4 73 RX3 yX3_has wsX3_has) := goodIn_app (goodIn_of _ (by decide +kernel)) ggX4_favours_X3_has
set_option maxRecDepth 20000 in
theorem ggX4_favours_X4_found : GoodIn wsX4_favours wsX4_found := goodIn_r _ [14, 2, 15, 108, 109, 110, 111, 112, 113, 114] rfl (by decide +kernel)
set_option maxRecDepth 20000 in
theorem gX4_favours_X4_found : GoodIn wsX4_favours (wsV RX4 51 RX4 yX4_found wsX4_found) := goodIn_app (goodIn_of _ (by decide +kernel)) ggX4_favours_X4_found
set_option maxRecDepth 20000 in
theorem ggX4_favours_X4_tryOut : GoodIn wsX4_favours wsX4_tryOut := goodIn_r _ [19, 20, 1, 21, 22, 23, 7, 24, 25, 26, 27, 28, 9, 29, 30, 31, 32, 33, 34, 35, 36, 37, 108, 109, 110, 111, 112, 113, 114, 115, 116, 117, 118, 119, 120, 121, 122, 123, 124, 125, 126, 127, 128, 129] rfl (by decide +kernel)
set_option maxRecDepth 20000 in
theorem gX4_favours_X4_tryOut : GoodIn wsX4_favours (wsV RX4 174 RX4 yX4_tryOut wsX4_tryOut) := goodIn_app (goodIn_of _ (by decide +kernel)) ggX4_favours_X4_tryOut
set_option maxRecDepth 20000 in
theorem ggX4_favours_X3_lineUp : GoodIn wsX4_favours wsX3_lineUp := goodIn_r _ [41, 9, 35, 34, 37, 28, 29, 115, 116, 117, 118, 119, 120, 121, 122, 123, 124, 125, 126, 127, 128, 129] rfl (by decide +kernel)
set_option maxRecDepth 20000 in
theorem gX4_favours_X3_lineUp : GoodIn wsX4_favours (wsV RX4 135 RX3 yX3_lineUp wsX3_lineUp) := goodIn_app (goodIn_of _ (by decide +kernel)) ggX4_favours_X3_lineUp
set_option maxRecDepth 20000 in
theorem ggX4_favours_X3_goOn : GoodIn wsX4_favours wsX3_goOn := goodIn_r _ [45, 46, 47, 48, 7, 49, 29, 9, 50, 51, 52, 53, 54, 37, 26, 55, 56, 57, 58, 28, 35, 25, 59, 60, 61, 62, 63, 64, 65, 66, 30, 33, 67, 68, 69, 31, 70, 5, 6, 8, 71, 72, 73, 74, 75, 76, 77, 78, 79, 80, 81, 82, 83, 84, 85, 86, 87, 88, 89, 90, 32, 115, 116, 117, 118, 119, 120, 121, 122, 123, 124, 125, 126, 127, 128, 129] rfl (by decide +kernel)
set_option maxRecDepth 20000 in
theorem gX4_favours_X3_goOn : GoodIn wsX4_favours (wsV RX4 138 RX3 yX3_goOn wsX3_goOn) := goodIn_app (goodIn_of _ (by decide +kernel)) ggX4_favours_X3_goOn
set_option maxRecDepth 20000 in
theorem ggX4_favours_X3_allHome : GoodIn wsX4_favours wsX3_allHome := goodIn_r _ [49, 29, 9, 115, 116, 117, 118, 119, 120, 121, 122, 123, 124, 125, 126, 127, 128, 129] rfl (by decide +kernel)
set_option maxRecDepth 20000 in
theorem gX4_favours_X3_allHome : GoodIn wsX4_favours (wsV RX4 163 RX3 yX3_allHome wsX3_allHome) := goodIn_app (goodIn_of _ (by decide +kernel)) ggX4_favours_X3_allHome
set_option maxRecDepth 20000 in
theorem ggX4_favours_X3_prizeOwner : GoodIn wsX4_favours wsX3_prizeOwner := goodIn_r _ [95, 9, 96, 97, 98, 7, 99, 100, 101, 102, 103, 70, 5, 6, 8, 104, 105, 106, 107, 37, 35, 115, 116, 117, 118, 119, 120, 121, 122, 123, 124, 125, 126, 127, 128, 129] rfl (by decide +kernel)
set_option maxRecDepth 20000 in
theorem gX4_favours_X3_prizeOwner : GoodIn wsX4_favours (wsV RX4 157 RX3 yX3_prizeOwner wsX3_prizeOwner) := goodIn_app (goodIn_of _ (by decide +kernel)) ggX4_favours_X3_prizeOwner
theorem dX4_favours_0 : decode cX4_favours 0 = .ok (.aload_n 0, 1) := by decide +kernel
theorem dX4_favours_1 : decode cX4_favours 1 = .ok (.getfield 10, 3) := by decide +kernel
theorem dX4_favours_4 : decode cX4_favours 4 = .ok (.iload_n 1, 1) := by decide +kernel
theorem dX4_favours_5 : decode cX4_favours 5 = .ok (.invokevirtual 73, 3) := by decide +kernel
theorem dX4_favours_8 : decode cX4_favours 8 = .ok (.ifCond .ne 10, 3) := by decide +kernel
theorem dX4_favours_11 : decode cX4_favours 11 = .ok (.aload_n 0, 1) := by decide +kernel
theorem dX4_favours_12 : decode cX4_favours 12 = .ok (.ldc 50, 2) := by decide +kernel
theorem dX4_favours_14 : decode cX4_favours 14 = .ok (.invokevirtual 51, 3) := by decide +kernel
theorem dX4_favours_17 : decode cX4_favours 17 = .ok (.ireturn, 1) := by decide +kernel
theorem dX4_favours_18 : decode cX4_favours 18 = .ok (.aload_n 0, 1) := by decide +kernel
theorem dX4_favours_19 : decode cX4_favours 19 = .ok (.invokevirtual 174, 3) := by decide +kernel
theorem dX4_favours_22 : decode cX4_favours 22 = .ok (.astore_n 2, 1) := by decide +kernel
theorem dX4_favours_23 : decode cX4_favours 23 = .ok (.aload_n 2, 1) := by decide +kernel
theorem dX4_favours_24 : decode cX4_favours 24 = .ok (.invokevirtual 135, 3) := by decide +kernel
theorem dX4_favours_27 : decode cX4_favours 27 = .ok (.aload_n 2, 1) := by decide +kernel
theorem dX4_favours_28 : decode cX4_favours 28 = .ok (.sipush 2000, 3) := by decide +kernel
theorem dX4_favours_31 : decode cX4_favours 31 = .ok (.invokevirtual 138, 3) := by decide +kernel
theorem dX4_favours_34 : decode cX4_favours 34 = .ok (.aload_n 2, 1) := by decide +kernel
theorem dX4_favours_35 : decode cX4_favours 35 = .ok (.invokevirtual 163, 3) := by decide +kernel
theorem dX4_favours_38 : decode cX4_favours 38 = .ok (.ifCond .ne 10, 3) := by decide +kernel
theorem dX4_favours_41 : decode cX4_favours 41 = .ok (.aload_n 0, 1) := by decide +kernel
theorem dX4_favours_42 : decode cX4_favours 42 = .ok (.ldc 178, 2) := by decide +kernel
theorem dX4_favours_44 : decode cX4_favours 44 = .ok (.invokevirtual 51, 3) := by decide +kernel
theorem dX4_favours_47 : decode cX4_favours 47 = .ok (.ireturn, 1) := by decide +kernel
theorem dX4_favours_48 : decode cX4_favours 48 = .ok (.iconst 0, 1) := by decide +kernel
theorem dX4_favours_49 : decode cX4_favours 49 = .ok (.istore_n 3, 1) := by decide +kernel
theorem dX4_favours_50 : decode cX4_favours 50 = .ok (.iconst 0, 1) := by decide +kernel
theorem dX4_favours_51 : decode cX4_favours 51 = .ok (.istore 4, 2) := by decide +kernel
theorem dX4_favours_53 : decode cX4_favours 53 = .ok (.iload 4, 2) := by decide +kernel
theorem dX4_favours_55 : decode cX4_favours 55 = .ok (.iconst 4, 1) := by decide +kernel
theorem dX4_favours_56 : decode cX4_favours 56 = .ok (.if_icmp .ge 26, 3) := by decide +kernel
theorem dX4_favours_59 : decode cX4_favours 59 = .ok (.aload_n 2, 1) := by decide +kernel
theorem dX4_favours_60 : decode cX4_favours 60 = .ok (.iload 4, 2) := by decide +kernel
theorem dX4_favours_62 : decode cX4_favours 62 = .ok (.invokevirtual 157, 3) := by decide +kernel
theorem dX4_favours_65 : decode cX4_favours 65 = .ok (.iload_n 1, 1) := by decide +kernel
theorem dX4_favours_66 : decode cX4_favours 66 = .ok (.if_icmp .ne 10, 3) := by decide +kernel
theorem dX4_favours_69 : decode cX4_favours 69 = .ok (.iload_n 3, 1) := by decide +kernel
theorem dX4_favours_70 : decode cX4_favours 70 = .ok (.iconst 1, 1) := by decide +kernel
theorem dX4_favours_71 : decode cX4_favours 71 = .ok (.iload 4, 2) := by decide +kernel
theorem dX4_favours_73 : decode cX4_favours 73 = .ok (.ishl, 1) := by decide +kernel
theorem dX4_favours_74 : decode cX4_favours 74 = .ok (.ior, 1) := by decide +kernel
theorem dX4_favours_75 : decode cX4_favours 75 = .ok (.istore_n 3, 1) := by decide +kernel
theorem dX4_favours_76 : decode cX4_favours 76 = .ok (.iinc 4 1, 3) := by decide +kernel
theorem dX4_favours_79 : decode cX4_favours 79 = .ok (.goto (-26), 3) := by decide +kernel
theorem dX4_favours_82 : decode cX4_favours 82 = .ok (.iload_n 3, 1) := by decide +kernel
theorem dX4_favours_83 : decode cX4_favours 83 = .ok (.ireturn, 1) := by decide +kernel
set_option maxRecDepth 20000 in
theorem ggX4_friend_X3_has : GoodIn wsX4_friend wsX3_has := goodIn_r _ [10, 11, 120, 121, 122, 123, 124, 125, 126, 127, 128, 129, 130, 131, 132, 133, 134] rfl (by decide +kernel)
set_option maxRecDepth 20000 in
theorem gX4_friend_X3_has : GoodIn wsX4_friend (wsV RX4 73 RX3 yX3_has wsX3_has) := goodIn_app (goodIn_of _ (by decide +kernel)) ggX4_friend_X3_has
set_option maxRecDepth 20000 in
theorem ggX4_friend_X4_found : GoodIn wsX4_friend wsX4_found := goodIn_r _ [16, 2, 17, 113, 114, 115, 116, 117, 118, 119] rfl (by decide +kernel)
set_option maxRecDepth 20000 in
theorem gX4_friend_X4_found : GoodIn wsX4_friend (wsV RX4 51 RX4 yX4_found wsX4_found) := goodIn_app (goodIn_of _ (by decide +kernel)) ggX4_friend_X4_found
set_option maxRecDepth 20000 in
theorem ggX4_friend_X4_tryOut : GoodIn wsX4_friend wsX4_tryOut := goodIn_r _ [21, 22, 1, 23, 24, 25, 9, 26, 27, 28, 29, 30, 11, 31, 32, 33, 34, 35, 36, 37, 38, 39, 113, 114, 115, 116, 117, 118, 119, 120, 121, 122, 123, 124, 125, 126, 127, 128, 129, 130, 131, 132, 133, 134] rfl (by decide +kernel)
set_option maxRecDepth 20000 in
theorem gX4_friend_X4_tryOut : GoodIn wsX4_friend (wsV RX4 174 RX4 yX4_tryOut wsX4_tryOut) := goodIn_app (goodIn_of _ (by decide +kernel)) ggX4_friend_X4_tryOut
set_option maxRecDepth 20000 in
theorem ggX4_friend_X3_raceOwner : GoodIn wsX4_friend wsX3_raceOwner := goodIn_r _ [43, 29, 44, 45, 46, 9, 47, 11, 37, 36, 39, 30, 31, 48, 49, 50, 51, 52, 53, 54, 55, 56, 57, 58, 59, 60, 28, 61, 62, 63, 64, 27, 65, 66, 67, 68, 69, 70, 71, 72, 32, 35, 73, 74, 75, 33, 76, 7, 8, 10, 77, 78, 79, 80, 81, 82, 83, 84, 85, 86, 87, 88, 89, 90, 91, 92, 93, 94, 95, 96, 34, 97, 98, 99, 100, 101, 102, 103, 104, 105, 106, 107, 108, 109, 110, 111, 112, 120, 121, 122, 123, 124, 125, 126, 127, 128, 129, 130, 131, 132, 133, 134] rfl (by decide +kernel)
set_option maxRecDepth 20000 in
theorem gX4_friend_X3_raceOwner : GoodIn wsX4_friend (wsV RX4 185 RX3 yX3_raceOwner wsX3_raceOwner) := goodIn_app (goodIn_of _ (by decide +kernel)) ggX4_friend_X3_raceOwner
theorem dX4_friend_0 : decode cX4_friend 0 = .ok (.aload_n 0, 1) := by decide +kernel
theorem dX4_friend_1 : decode cX4_friend 1 = .ok (.getfield 10, 3) := by decide +kernel
theorem dX4_friend_4 : decode cX4_friend 4 = .ok (.iload_n 1, 1) := by decide +kernel
theorem dX4_friend_5 : decode cX4_friend 5 = .ok (.invokevirtual 73, 3) := by decide +kernel
theorem dX4_friend_8 : decode cX4_friend 8 = .ok (.ifCond .ne 10, 3) := by decide +kernel
theorem dX4_friend_11 : decode cX4_friend 11 = .ok (.aload_n 0, 1) := by decide +kernel
theorem dX4_friend_12 : decode cX4_friend 12 = .ok (.ldc 50, 2) := by decide +kernel
theorem dX4_friend_14 : decode cX4_friend 14 = .ok (.invokevirtual 51, 3) := by decide +kernel
theorem dX4_friend_17 : decode cX4_friend 17 = .ok (.ireturn, 1) := by decide +kernel
theorem dX4_friend_18 : decode cX4_friend 18 = .ok (.iconst (-1), 1) := by decide +kernel
theorem dX4_friend_19 : decode cX4_friend 19 = .ok (.istore_n 2, 1) := by decide +kernel
theorem dX4_friend_20 : decode cX4_friend 20 = .ok (.iload_n 2, 1) := by decide +kernel
theorem dX4_friend_21 : decode cX4_friend 21 = .ok (.aload_n 0, 1) := by decide +kernel
theorem dX4_friend_22 : decode cX4_friend 22 = .ok (.getfield 10, 3) := by decide +kernel
theorem dX4_friend_25 : decode cX4_friend 25 = .ok (.getfield 64, 3) := by decide +kernel
theorem dX4_friend_28 : decode cX4_friend 28 = .ok (.if_icmp .ge 39, 3) := by decide +kernel
theorem dX4_friend_31 : decode cX4_friend 31 = .ok (.iload_n 2, 1) := by decide +kernel
theorem dX4_friend_32 : decode cX4_friend 32 = .ok (.iload_n 1, 1) := by decide +kernel
theorem dX4_friend_33 : decode cX4_friend 33 = .ok (.if_icmp .ne 6, 3) := by decide +kernel
theorem dX4_friend_36 : decode cX4_friend 36 = .ok (.goto 25, 3) := by decide +kernel
theorem dX4_friend_39 : decode cX4_friend 39 = .ok (.aload_n 0, 1) := by decide +kernel
theorem dX4_friend_40 : decode cX4_friend 40 = .ok (.invokevirtual 174, 3) := by decide +kernel
theorem dX4_friend_43 : decode cX4_friend 43 = .ok (.astore_n 3, 1) := by decide +kernel
theorem dX4_friend_44 : decode cX4_friend 44 = .ok (.aload_n 3, 1) := by decide +kernel
theorem dX4_friend_45 : decode cX4_friend 45 = .ok (.getfield 85, 3) := by decide +kernel
theorem dX4_friend_48 : decode cX4_friend 48 = .ok (.iload_n 1, 1) := by decide +kernel
theorem dX4_friend_49 : decode cX4_friend 49 = .ok (.iload_n 2, 1) := by decide +kernel
theorem dX4_friend_50 : decode cX4_friend 50 = .ok (.iastore, 1) := by decide +kernel
theorem dX4_friend_51 : decode cX4_friend 51 = .ok (.aload_n 3, 1) := by decide +kernel
theorem dX4_friend_52 : decode cX4_friend 52 = .ok (.invokevirtual 185, 3) := by decide +kernel
theorem dX4_friend_55 : decode cX4_friend 55 = .ok (.iload_n 1, 1) := by decide +kernel
theorem dX4_friend_56 : decode cX4_friend 56 = .ok (.if_icmp .ne 5, 3) := by decide +kernel
theorem dX4_friend_59 : decode cX4_friend 59 = .ok (.iload_n 2, 1) := by decide +kernel
theorem dX4_friend_60 : decode cX4_friend 60 = .ok (.ireturn, 1) := by decide +kernel
theorem dX4_friend_61 : decode cX4_friend 61 = .ok (.iinc 2 1, 3) := by decide +kernel
theorem dX4_friend_64 : decode cX4_friend 64 = .ok (.goto (-44), 3) := by decide +kernel
theorem dX4_friend_67 : decode cX4_friend 67 = .ok (.aload_n 0, 1) := by decide +kernel
theorem dX4_friend_68 : decode cX4_friend 68 = .ok (.ldc 178, 2) := by decide +kernel
theorem dX4_friend_70 : decode cX4_friend 70 = .ok (.invokevirtual 51, 3) := by decide +kernel
theorem dX4_friend_73 : decode cX4_friend 73 = .ok (.ireturn, 1) := by decide +kernel
set_option maxRecDepth 20000 in
theorem ggX4_deal_X4_tryOut : GoodIn wsX4_deal wsX4_tryOut := goodIn_r _ [8, 9, 2, 10, 11, 12, 13, 14, 15, 16, 17, 18, 19, 20, 21, 22, 23, 24, 25, 26, 27, 28, 115, 116, 117, 118, 119, 120, 121, 122, 123, 124, 125, 126, 127, 128, 129, 130, 131, 132, 133, 134, 135, 136] rfl (by decide +kernel)
set_option maxRecDepth 20000 in
theorem gX4_deal_X4_tryOut : GoodIn wsX4_deal (wsV RX4 174 RX4 yX4_tryOut wsX4_tryOut) := goodIn_app (goodIn_of _ (by decide +kernel)) ggX4_deal_X4_tryOut
set_option maxRecDepth 20000 in
theorem ggX4_deal_X3_raceOwner : GoodIn wsX4_deal wsX3_raceOwner := goodIn_r _ [32, 17, 33, 34, 35, 13, 36, 19, 26, 25, 28, 18, 20, 37, 38, 39, 40, 41, 42, 43, 44, 45, 46, 47, 48, 49, 16, 50, 51, 52, 53, 15, 54, 55, 56, 57, 58, 59, 60, 61, 21, 24, 62, 63, 64, 22, 65, 66, 67, 68, 69, 70, 71, 72, 73, 74, 75, 76, 77, 78, 79, 80, 81, 82, 83, 84, 85, 86, 87, 88, 23, 89, 90, 91, 92, 93, 94, 95, 96, 97, 98, 99, 100, 101, 102, 103, 104, 122, 123, 124, 125, 126, 127, 128, 129, 130, 131, 132, 133, 134, 135, 136] rfl (by decide +kernel)
set_option maxRecDepth 20000 in
theorem gX4_deal_X3_raceOwner : GoodIn wsX4_deal (wsV RX4 185 RX3 yX3_raceOwner wsX3_raceOwner) := goodIn_app (goodIn_of _ (by decide +kernel)) ggX4_deal_X3_raceOwner
set_option maxRecDepth 20000 in
theorem ggX4_deal_X4_found : GoodIn wsX4_deal wsX4_found := goodIn_r _ [108, 109, 110, 115, 116, 117, 118, 119, 120, 121] rfl (by decide +kernel)
set_option maxRecDepth 20000 in
theorem gX4_deal_X4_found : GoodIn wsX4_deal (wsV RX4 51 RX4 yX4_found wsX4_found) := goodIn_app (goodIn_of _ (by decide +kernel)) ggX4_deal_X4_found
set_option maxRecDepth 20000 in
theorem ggX4_deal_X3_changePaces : GoodIn wsX4_deal wsX3_changePaces := goodIn_r _ [114, 22, 65, 66, 67, 13, 68, 19, 122, 123, 124, 125, 126, 127, 128, 129, 130, 131, 132, 133, 134, 135, 136] rfl (by decide +kernel)
set_option maxRecDepth 20000 in
theorem gX4_deal_X3_changePaces : GoodIn wsX4_deal (wsV RX4 188 RX3 yX3_changePaces wsX3_changePaces) := goodIn_app (goodIn_of _ (by decide +kernel)) ggX4_deal_X3_changePaces
theorem dX4_deal_0 : decode cX4_deal 0 = .ok (.aload_n 0, 1) := by decide +kernel
theorem dX4_deal_1 : decode cX4_deal 1 = .ok (.invokevirtual 174, 3) := by decide +kernel
theorem dX4_deal_4 : decode cX4_deal 4 = .ok (.invokevirtual 185, 3) := by decide +kernel
theorem dX4_deal_7 : decode cX4_deal 7 = .ok (.istore_n 1, 1) := by decide +kernel
theorem dX4_deal_8 : decode cX4_deal 8 = .ok (.iload_n 1, 1) := by decide +kernel
theorem dX4_deal_9 : decode cX4_deal 9 = .ok (.iconst (-1), 1) := by decide +kernel
theorem dX4_deal_10 : decode cX4_deal 10 = .ok (.if_icmp .ne 10, 3) := by decide +kernel
theorem dX4_deal_13 : decode cX4_deal 13 = .ok (.aload_n 0, 1) := by decide +kernel
theorem dX4_deal_14 : decode cX4_deal 14 = .ok (.ldc 178, 2) := by decide +kernel
theorem dX4_deal_16 : decode cX4_deal 16 = .ok (.invokevirtual 51, 3) := by decide +kernel
theorem dX4_deal_19 : decode cX4_deal 19 = .ok (.ireturn, 1) := by decide +kernel
theorem dX4_deal_20 : decode cX4_deal 20 = .ok (.iconst 0, 1) := by decide +kernel
theorem dX4_deal_21 : decode cX4_deal 21 = .ok (.istore_n 2, 1) := by decide +kernel
theorem dX4_deal_22 : decode cX4_deal 22 = .ok (.iload_n 2, 1) := by decide +kernel
theorem dX4_deal_23 : decode cX4_deal 23 = .ok (.aload_n 0, 1) := by decide +kernel
theorem dX4_deal_24 : decode cX4_deal 24 = .ok (.getfield 10, 3) := by decide +kernel
theorem dX4_deal_27 : decode cX4_deal 27 = .ok (.getfield 64, 3) := by decide +kernel
theorem dX4_deal_30 : decode cX4_deal 30 = .ok (.if_icmp .ge 69, 3) := by decide +kernel
theorem dX4_deal_33 : decode cX4_deal 33 = .ok (.iload_n 2, 1) := by decide +kernel
theorem dX4_deal_34 : decode cX4_deal 34 = .ok (.iconst 1, 1) := by decide +kernel
theorem dX4_deal_35 : decode cX4_deal 35 = .ok (.iadd, 1) := by decide +kernel
theorem dX4_deal_36 : decode cX4_deal 36 = .ok (.istore_n 3, 1) := by decide +kernel
theorem dX4_deal_37 : decode cX4_deal 37 = .ok (.iload_n 3, 1) := by decide +kernel
theorem dX4_deal_38 : decode cX4_deal 38 = .ok (.aload_n 0, 1) := by decide +kernel
theorem dX4_deal_39 : decode cX4_deal 39 = .ok (.getfield 10, 3) := by decide +kernel
theorem dX4_deal_42 : decode cX4_deal 42 = .ok (.getfield 64, 3) := by decide +kernel
theorem dX4_deal_45 : decode cX4_deal 45 = .ok (.if_icmp .ge 48, 3) := by decide +kernel
theorem dX4_deal_48 : decode cX4_deal 48 = .ok (.aload_n 0, 1) := by decide +kernel
theorem dX4_deal_49 : decode cX4_deal 49 = .ok (.invokevirtual 174, 3) := by decide +kernel
theorem dX4_deal_52 : decode cX4_deal 52 = .ok (.astore 4, 2) := by decide +kernel
theorem dX4_deal_54 : decode cX4_deal 54 = .ok (.aload 4, 2) := by decide +kernel
theorem dX4_deal_56 : decode cX4_deal 56 = .ok (.iload_n 2, 1) := by decide +kernel
theorem dX4_deal_57 : decode cX4_deal 57 = .ok (.iload_n 3, 1) := by decide +kernel
theorem dX4_deal_58 : decode cX4_deal 58 = .ok (.invokevirtual 188, 3) := by decide +kernel
theorem dX4_deal_61 : decode cX4_deal 61 = .ok (.aload 4, 2) := by decide +kernel
theorem dX4_deal_63 : decode cX4_deal 63 = .ok (.invokevirtual 185, 3) := by decide +kernel
theorem dX4_deal_66 : decode cX4_deal 66 = .ok (.istore 5, 2) := by decide +kernel
theorem dX4_deal_68 : decode cX4_deal 68 = .ok (.iload 5, 2) := by decide +kernel
theorem dX4_deal_70 : decode cX4_deal 70 = .ok (.iconst (-1), 1) := by decide +kernel
theorem dX4_deal_71 : decode cX4_deal 71 = .ok (.if_icmp .eq 16, 3) := by decide +kernel
theorem dX4_deal_74 : decode cX4_deal 74 = .ok (.iload 5, 2) := by decide +kernel
theorem dX4_deal_76 : decode cX4_deal 76 = .ok (.iload_n 1, 1) := by decide +kernel
theorem dX4_deal_77 : decode cX4_deal 77 = .ok (.if_icmp .eq 10, 3) := by decide +kernel
theorem dX4_deal_80 : decode cX4_deal 80 = .ok (.bipush 10, 2) := by decide +kernel
theorem dX4_deal_82 : decode cX4_deal 82 = .ok (.iload_n 2, 1) := by decide +kernel
theorem dX4_deal_83 : decode cX4_deal 83 = .ok (.imul, 1) := by decide +kernel
theorem dX4_deal_84 : decode cX4_deal 84 = .ok (.iload_n 3, 1) := by decide +kernel
theorem dX4_deal_85 : decode cX4_deal 85 = .ok (.iadd, 1) := by decide +kernel
theorem dX4_deal_86 : decode cX4_deal 86 = .ok (.ireturn, 1) := by decide +kernel
theorem dX4_deal_87 : decode cX4_deal 87 = .ok (.iinc 3 1, 3) := by decide +kernel
theorem dX4_deal_90 : decode cX4_deal 90 = .ok (.goto (-53), 3) := by decide +kernel
theorem dX4_deal_93 : decode cX4_deal 93 = .ok (.iinc 2 1, 3) := by decide +kernel
theorem dX4_deal_96 : decode cX4_deal 96 = .ok (.goto (-74), 3) := by decide +kernel
theorem dX4_deal_99 : decode cX4_deal 99 = .ok (.aload_n 0, 1) := by decide +kernel
theorem dX4_deal_100 : decode cX4_deal 100 = .ok (.ldc 178, 2) := by decide +kernel
theorem dX4_deal_102 : decode cX4_deal 102 = .ok (.invokevirtual 51, 3) := by decide +kernel
theorem dX4_deal_105 : decode cX4_deal 105 = .ok (.ireturn, 1) := by decide +kernel
set_option maxRecDepth 20000 in
theorem ggX4_fair_X4_most : GoodIn wsX4_fair wsX4_most := goodIn_r _ [9, 1, 10, 117, 118, 119, 120, 121, 122, 123, 124, 125, 126, 127, 128, 129, 130, 131, 132, 133, 134, 135, 136, 137, 138] rfl (by decide +kernel)
set_option maxRecDepth 20000 in
theorem gX4_fair_X4_most : GoodIn wsX4_fair (wsV RX4 170 RX4 yX4_most wsX4_most) := goodIn_app (goodIn_of _ (by decide +kernel)) ggX4_fair_X4_most
set_option maxRecDepth 20000 in
theorem ggX4_fair_X4_found : GoodIn wsX4_fair wsX4_found := goodIn_r _ [14, 15, 16, 117, 118, 119, 120, 121, 122, 123] rfl (by decide +kernel)
set_option maxRecDepth 20000 in
theorem gX4_fair_X4_found : GoodIn wsX4_fair (wsV RX4 51 RX4 yX4_found wsX4_found) := goodIn_app (goodIn_of _ (by decide +kernel)) ggX4_fair_X4_found
set_option maxRecDepth 20000 in
theorem ggX4_fair_X4_tryOut : GoodIn wsX4_fair wsX4_tryOut := goodIn_r _ [20, 21, 1, 22, 23, 24, 25, 26, 27, 28, 29, 30, 31, 32, 33, 34, 35, 36, 37, 38, 39, 40, 117, 118, 119, 120, 121, 122, 123, 124, 125, 126, 127, 128, 129, 130, 131, 132, 133, 134, 135, 136, 137, 138] rfl (by decide +kernel)
set_option maxRecDepth 20000 in
theorem gX4_fair_X4_tryOut : GoodIn wsX4_fair (wsV RX4 174 RX4 yX4_tryOut wsX4_tryOut) := goodIn_app (goodIn_of _ (by decide +kernel)) ggX4_fair_X4_tryOut
set_option maxRecDepth 20000 in
theorem ggX4_fair_X3_raceOwner : GoodIn wsX4_fair wsX3_raceOwner := goodIn_r _ [44, 29, 45, 46, 47, 25, 48, 31, 38, 37, 40, 30, 32, 49, 50, 51, 52, 53, 54, 55, 56, 57, 58, 59, 60, 61, 28, 62, 63, 64, 65, 27, 66, 67, 68, 69, 70, 71, 72, 73, 33, 36, 74, 75, 76, 34, 77, 78, 79, 80, 81, 82, 83, 84, 85, 86, 87, 88, 89, 90, 91, 92, 93, 94, 95, 96, 97, 98, 99, 100, 35, 101, 102, 103, 104, 105, 106, 107, 108, 109, 110, 111, 112, 113, 114, 115, 116, 124, 125, 126, 127, 128, 129, 130, 131, 132, 133, 134, 135, 136, 137, 138] rfl (by decide +kernel)
set_option maxRecDepth 20000 in
theorem gX4_fair_X3_raceOwner : GoodIn wsX4_fair (wsV RX4 185 RX3 yX3_raceOwner wsX3_raceOwner) := goodIn_app (goodIn_of _ (by decide +kernel)) ggX4_fair_X3_raceOwner
theorem dX4_fair_0 : decode cX4_fair 0 = .ok (.aload_n 0, 1) := by decide +kernel
theorem dX4_fair_1 : decode cX4_fair 1 = .ok (.aload_n 0, 1) := by decide +kernel
theorem dX4_fair_2 : decode cX4_fair 2 = .ok (.getfield 10, 3) := by decide +kernel
theorem dX4_fair_5 : decode cX4_fair 5 = .ok (.getfield 79, 3) := by decide +kernel
theorem dX4_fair_8 : decode cX4_fair 8 = .ok (.invokevirtual 170, 3) := by decide +kernel
theorem dX4_fair_11 : decode cX4_fair 11 = .ok (.istore_n 1, 1) := by decide +kernel
theorem dX4_fair_12 : decode cX4_fair 12 = .ok (.iload_n 1, 1) := by decide +kernel
theorem dX4_fair_13 : decode cX4_fair 13 = .ok (.iconst (-1), 1) := by decide +kernel
theorem dX4_fair_14 : decode cX4_fair 14 = .ok (.if_icmp .ne 10, 3) := by decide +kernel
theorem dX4_fair_17 : decode cX4_fair 17 = .ok (.aload_n 0, 1) := by decide +kernel
theorem dX4_fair_18 : decode cX4_fair 18 = .ok (.ldc 178, 2) := by decide +kernel
theorem dX4_fair_20 : decode cX4_fair 20 = .ok (.invokevirtual 51, 3) := by decide +kernel
theorem dX4_fair_23 : decode cX4_fair 23 = .ok (.ireturn, 1) := by decide +kernel
theorem dX4_fair_24 : decode cX4_fair 24 = .ok (.iconst 0, 1) := by decide +kernel
theorem dX4_fair_25 : decode cX4_fair 25 = .ok (.istore_n 2, 1) := by decide +kernel
theorem dX4_fair_26 : decode cX4_fair 26 = .ok (.iload_n 2, 1) := by decide +kernel
theorem dX4_fair_27 : decode cX4_fair 27 = .ok (.iconst 5, 1) := by decide +kernel
theorem dX4_fair_28 : decode cX4_fair 28 = .ok (.if_icmp .gt 29, 3) := by decide +kernel
theorem dX4_fair_31 : decode cX4_fair 31 = .ok (.aload_n 0, 1) := by decide +kernel
theorem dX4_fair_32 : decode cX4_fair 32 = .ok (.invokevirtual 174, 3) := by decide +kernel
theorem dX4_fair_35 : decode cX4_fair 35 = .ok (.astore_n 3, 1) := by decide +kernel
theorem dX4_fair_36 : decode cX4_fair 36 = .ok (.aload_n 3, 1) := by decide +kernel
theorem dX4_fair_37 : decode cX4_fair 37 = .ok (.iload_n 2, 1) := by decide +kernel
theorem dX4_fair_38 : decode cX4_fair 38 = .ok (.putfield 148, 3) := by decide +kernel
theorem dX4_fair_41 : decode cX4_fair 41 = .ok (.aload_n 3, 1) := by decide +kernel
theorem dX4_fair_42 : decode cX4_fair 42 = .ok (.invokevirtual 185, 3) := by decide +kernel
theorem dX4_fair_45 : decode cX4_fair 45 = .ok (.iload_n 1, 1) := by decide +kernel
theorem dX4_fair_46 : decode cX4_fair 46 = .ok (.if_icmp .ne 5, 3) := by decide +kernel
theorem dX4_fair_49 : decode cX4_fair 49 = .ok (.iload_n 2, 1) := by decide +kernel
theorem dX4_fair_50 : decode cX4_fair 50 = .ok (.ireturn, 1) := by decide +kernel
theorem dX4_fair_51 : decode cX4_fair 51 = .ok (.iinc 2 1, 3) := by decide +kernel
theorem dX4_fair_54 : decode cX4_fair 54 = .ok (.goto (-28), 3) := by decide +kernel
theorem dX4_fair_57 : decode cX4_fair 57 = .ok (.aload_n 0, 1) := by decide +kernel
theorem dX4_fair_58 : decode cX4_fair 58 = .ok (.ldc 178, 2) := by decide +kernel
theorem dX4_fair_60 : decode cX4_fair 60 = .ok (.invokevirtual 51, 3) := by decide +kernel
theorem dX4_fair_63 : decode cX4_fair 63 = .ok (.ireturn, 1) := by decide +kernel
set_option maxRecDepth 20000 in
theorem ggX4_odds_X3_has : GoodIn wsX4_odds wsX3_has := goodIn_r _ [10, 11, 120, 121, 122, 123, 124, 125, 126, 127, 128, 129, 130, 131, 132, 133, 134] rfl (by decide +kernel)
set_option maxRecDepth 20000 in
theorem gX4_odds_X3_has : GoodIn wsX4_odds (wsV RX4 73 RX3 yX3_has wsX3_has) := goodIn_app (goodIn_of _ (by decide +kernel)) ggX4_odds_X3_has
set_option maxRecDepth 20000 in
theorem ggX4_odds_X4_found : GoodIn wsX4_odds wsX4_found := goodIn_r _ [16, 2, 17, 113, 114, 115, 116, 117, 118, 119] rfl (by decide +kernel)
set_option maxRecDepth 20000 in
theorem gX4_odds_X4_found : GoodIn wsX4_odds (wsV RX4 51 RX4 yX4_found wsX4_found) := goodIn_app (goodIn_of _ (by decide +kernel)) ggX4_odds_X4_found
set_option maxRecDepth 20000 in
theorem ggX4_odds_X4_tryOut : GoodIn wsX4_odds wsX4_tryOut := goodIn_r _ [21, 22, 1, 23, 24, 25, 9, 26, 27, 28, 29, 30, 11, 31, 32, 33, 34, 35, 36, 37, 38, 39, 113, 114, 115, 116, 117, 118, 119, 120, 121, 122, 123, 124, 125, 126, 127, 128, 129, 130, 131, 132, 133, 134] rfl (by decide +kernel)
set_option maxRecDepth 20000 in
theorem gX4_odds_X4_tryOut : GoodIn wsX4_odds (wsV RX4 174 RX4 yX4_tryOut wsX4_tryOut) := goodIn_app (goodIn_of _ (by decide +kernel)) ggX4_odds_X4_tryOut
set_option maxRecDepth 20000 in
theorem ggX4_odds_X3_raceOwner : GoodIn wsX4_odds wsX3_raceOwner := goodIn_r _ [43, 29, 44, 45, 46, 9, 47, 11, 37, 36, 39, 30, 31, 48, 49, 50, 51, 52, 53, 54, 55, 56, 57, 58, 59, 60, 28, 61, 62, 63, 64, 27, 65, 66, 67, 68, 69, 70, 71, 72, 32, 35, 73, 74, 75, 33, 76, 7, 8, 10, 77, 78, 79, 80, 81, 82, 83, 84, 85, 86, 87, 88, 89, 90, 91, 92, 93, 94, 95, 96, 34, 97, 98, 99, 100, 101, 102, 103, 104, 105, 106, 107, 108, 109, 110, 111, 112, 120, 121, 122, 123, 124, 125, 126, 127, 128, 129, 130, 131, 132, 133, 134] rfl (by decide +kernel)
set_option maxRecDepth 20000 in
theorem gX4_odds_X3_raceOwner : GoodIn wsX4_odds (wsV RX4 185 RX3 yX3_raceOwner wsX3_raceOwner) := goodIn_app (goodIn_of _ (by decide +kernel)) ggX4_odds_X3_raceOwner
theorem dX4_odds_0 : decode cX4_odds 0 = .ok (.aload_n 0, 1) := by decide +kernel
theorem dX4_odds_1 : decode cX4_odds 1 = .ok (.getfield 10, 3) := by decide +kernel
theorem dX4_odds_4 : decode cX4_odds 4 = .ok (.iload_n 1, 1) := by decide +kernel
theorem dX4_odds_5 : decode cX4_odds 5 = .ok (.invokevirtual 73, 3) := by decide +kernel
theorem dX4_odds_8 : decode cX4_odds 8 = .ok (.ifCond .eq 14, 3) := by decide +kernel
theorem dX4_odds_11 : decode cX4_odds 11 = .ok (.iload_n 2, 1) := by decide +kernel
theorem dX4_odds_12 : decode cX4_odds 12 = .ok (.iconst 1, 1) := by decide +kernel
theorem dX4_odds_13 : decode cX4_odds 13 = .ok (.if_icmp .lt 9, 3) := by decide +kernel
theorem dX4_odds_16 : decode cX4_odds 16 = .ok (.iload_n 2, 1) := by decide +kernel
theorem dX4_odds_17 : decode cX4_odds 17 = .ok (.bipush 20, 2) := by decide +kernel
theorem dX4_odds_19 : decode cX4_odds 19 = .ok (.if_icmp .le 10, 3) := by decide +kernel
theorem dX4_odds_22 : decode cX4_odds 22 = .ok (.aload_n 0, 1) := by decide +kernel
theorem dX4_odds_23 : decode cX4_odds 23 = .ok (.ldc 50, 2) := by decide +kernel
theorem dX4_odds_25 : decode cX4_odds 25 = .ok (.invokevirtual 51, 3) := by decide +kernel
theorem dX4_odds_28 : decode cX4_odds 28 = .ok (.ireturn, 1) := by decide +kernel
theorem dX4_odds_29 : decode cX4_odds 29 = .ok (.iload_n 3, 1) := by decide +kernel
theorem dX4_odds_30 : decode cX4_odds 30 = .ok (.istore 4, 2) := by decide +kernel
theorem dX4_odds_32 : decode cX4_odds 32 = .ok (.iconst 0, 1) := by decide +kernel
theorem dX4_odds_33 : decode cX4_odds 33 = .ok (.istore 5, 2) := by decide +kernel
theorem dX4_odds_35 : decode cX4_odds 35 = .ok (.iconst 0, 1) := by decide +kernel
theorem dX4_odds_36 : decode cX4_odds 36 = .ok (.istore 6, 2) := by decide +kernel
theorem dX4_odds_38 : decode cX4_odds 38 = .ok (.iload 6, 2) := by decide +kernel
theorem dX4_odds_40 : decode cX4_odds 40 = .ok (.iload_n 2, 1) := by decide +kernel
theorem dX4_odds_41 : decode cX4_odds 41 = .ok (.if_icmp .ge 75, 3) := by decide +kernel
theorem dX4_odds_44 : decode cX4_odds 44 = .ok (.aload_n 0, 1) := by decide +kernel
theorem dX4_odds_45 : decode cX4_odds 45 = .ok (.invokevirtual 174, 3) := by decide +kernel
theorem dX4_odds_48 : decode cX4_odds 48 = .ok (.astore 7, 2) := by decide +kernel
theorem dX4_odds_50 : decode cX4_odds 50 = .ok (.iconst 0, 1) := by decide +kernel
theorem dX4_odds_51 : decode cX4_odds 51 = .ok (.istore 8, 2) := by decide +kernel
theorem dX4_odds_53 : decode cX4_odds 53 = .ok (.iload 8, 2) := by decide +kernel
theorem dX4_odds_55 : decode cX4_odds 55 = .ok (.aload 7, 2) := by decide +kernel
theorem dX4_odds_57 : decode cX4_odds 57 = .ok (.getfield 64, 3) := by decide +kernel
theorem dX4_odds_60 : decode cX4_odds 60 = .ok (.if_icmp .ge 38, 3) := by decide +kernel
theorem dX4_odds_63 : decode cX4_odds 63 = .ok (.iload 4, 2) := by decide +kernel
theorem dX4_odds_65 : decode cX4_odds 65 = .ok (.ldc 192, 2) := by decide +kernel
theorem dX4_odds_67 : decode cX4_odds 67 = .ok (.imul, 1) := by decide +kernel
theorem dX4_odds_68 : decode cX4_odds 68 = .ok (.sipush 12345, 3) := by decide +kernel
theorem dX4_odds_71 : decode cX4_odds 71 = .ok (.iadd, 1) := by decide +kernel
theorem dX4_odds_72 : decode cX4_odds 72 = .ok (.istore 4, 2) := by decide +kernel
theorem dX4_odds_74 : decode cX4_odds 74 = .ok (.aload 7, 2) := by decide +kernel
theorem dX4_odds_76 : decode cX4_odds 76 = .ok (.getfield 79, 3) := by decide +kernel
theorem dX4_odds_79 : decode cX4_odds 79 = .ok (.iload 8, 2) := by decide +kernel
theorem dX4_odds_81 : decode cX4_odds 81 = .ok (.iload 4, 2) := by decide +kernel
theorem dX4_odds_83 : decode cX4_odds 83 = .ok (.bipush 8, 2) := by decide +kernel
theorem dX4_odds_85 : decode cX4_odds 85 = .ok (.iushr, 1) := by decide +kernel
theorem dX4_odds_86 : decode cX4_odds 86 = .ok (.bipush 12, 2) := by decide +kernel
theorem dX4_odds_88 : decode cX4_odds 88 = .ok (.irem, 1) := by decide +kernel
theorem dX4_odds_89 : decode cX4_odds 89 = .ok (.iconst 1, 1) := by decide +kernel
theorem dX4_odds_90 : decode cX4_odds 90 = .ok (.iadd, 1) := by decide +kernel
theorem dX4_odds_91 : decode cX4_odds 91 = .ok (.iastore, 1) := by decide +kernel
theorem dX4_odds_92 : decode cX4_odds 92 = .ok (.iinc 8 1, 3) := by decide +kernel
theorem dX4_odds_95 : decode cX4_odds 95 = .ok (.goto (-42), 3) := by decide +kernel
theorem dX4_odds_98 : decode cX4_odds 98 = .ok (.aload 7, 2) := by decide +kernel
theorem dX4_odds_100 : decode cX4_odds 100 = .ok (.invokevirtual 185, 3) := by decide +kernel
theorem dX4_odds_103 : decode cX4_odds 103 = .ok (.iload_n 1, 1) := by decide +kernel
theorem dX4_odds_104 : decode cX4_odds 104 = .ok (.if_icmp .ne 6, 3) := by decide +kernel
theorem dX4_odds_107 : decode cX4_odds 107 = .ok (.iinc 5 1, 3) := by decide +kernel
theorem dX4_odds_110 : decode cX4_odds 110 = .ok (.iinc 6 1, 3) := by decide +kernel
theorem dX4_odds_113 : decode cX4_odds 113 = .ok (.goto (-75), 3) := by decide +kernel
theorem dX4_odds_116 : decode cX4_odds 116 = .ok (.iload 5, 2) := by decide +kernel
theorem dX4_odds_118 : decode cX4_odds 118 = .ok (.ireturn, 1) := by decide +kernel
set_option maxRecDepth 20000 in
theorem ggX4_unwilling_X4_tryOut : GoodIn wsX4_unwilling wsX4_tryOut := goodIn_r _ [8, 9, 10, 11, 12, 13, 14, 15, 16, 17, 18, 19, 20, 21, 22, 23, 24, 25, 26, 27, 28, 29, 99, 100, 101, 102, 103, 104, 105, 84, 85, 86, 87, 88, 89, 90, 91, 92, 93, 94, 95, 96, 97, 98] rfl (by decide +kernel)
set_option maxRecDepth 20000 in
theorem gX4_unwilling_X4_tryOut : GoodIn wsX4_unwilling (wsV RX4 174 RX4 yX4_tryOut wsX4_tryOut) := goodIn_app (goodIn_of _ (by decide +kernel)) ggX4_unwilling_X4_tryOut
set_option maxRecDepth 20000 in
theorem ggX4_unwilling_X3_lineUp : GoodIn wsX4_unwilling wsX3_lineUp := goodIn_r _ [33, 20, 27, 26, 29, 19, 21, 84, 85, 86, 87, 88, 89, 90, 91, 92, 93, 94, 95, 96, 97, 98] rfl (by decide +kernel)
set_option maxRecDepth 20000 in
theorem gX4_unwilling_X3_lineUp : GoodIn wsX4_unwilling (wsV RX4 135 RX3 yX3_lineUp wsX3_lineUp) := goodIn_app (goodIn_of _ (by decide +kernel)) ggX4_unwilling_X3_lineUp
set_option maxRecDepth 20000 in
theorem ggX4_unwilling_X3_allHome : GoodIn wsX4_unwilling wsX3_allHome := goodIn_r _ [37, 21, 20, 84, 85, 86, 87, 88, 89, 90, 91, 92, 93, 94, 95, 96, 97, 98] rfl (by decide +kernel)
set_option maxRecDepth 20000 in
theorem gX4_unwilling_X3_allHome : GoodIn wsX4_unwilling (wsV RX4 163 RX3 yX3_allHome wsX3_allHome) := goodIn_app (goodIn_of _ (by decide +kernel)) ggX4_unwilling_X3_allHome
set_option maxRecDepth 20000 in
theorem ggX4_unwilling_X3_firstAlone : GoodIn wsX4_unwilling wsX3_firstAlone := goodIn_r _ [41, 20, 29, 27, 84, 85, 86, 87, 88, 89, 90, 91, 92, 93, 94, 95, 96, 97, 98] rfl (by decide +kernel)
set_option maxRecDepth 20000 in
theorem gX4_unwilling_X3_firstAlone : GoodIn wsX4_unwilling (wsV RX4 124 RX3 yX3_firstAlone wsX3_firstAlone) := goodIn_app (goodIn_of _ (by decide +kernel)) ggX4_unwilling_X3_firstAlone
set_option maxRecDepth 20000 in
theorem ggX4_unwilling_X3_has : GoodIn wsX4_unwilling wsX3_has := goodIn_r _ [45, 20, 84, 85, 86, 87, 88, 89, 90, 91, 92, 93, 94, 95, 96, 97, 98] rfl (by decide +kernel)
set_option maxRecDepth 20000 in
theorem gX4_unwilling_X3_has : GoodIn wsX4_unwilling (wsV RX4 73 RX3 yX3_has wsX3_has) := goodIn_app (goodIn_of _ (by decide +kernel)) ggX4_unwilling_X3_has
set_option maxRecDepth 20000 in
theorem ggX4_unwilling_X3_goSecond : GoodIn wsX4_unwilling wsX3_goSecond := goodIn_r _ [49, 20, 50, 29, 17, 51, 52, 53, 54, 19, 27, 16, 21, 55, 39, 40, 14, 41, 56, 57, 58, 59, 22, 25, 60, 61, 62, 23, 63, 43, 44, 45, 64, 65, 66, 67, 68, 69, 70, 71, 72, 73, 74, 75, 76, 77, 78, 79, 80, 81, 82, 83, 24, 84, 85, 86, 87, 88, 89, 90, 91, 92, 93, 94, 95, 96, 97, 98] rfl (by decide +kernel)
set_option maxRecDepth 20000 in
theorem gX4_unwilling_X3_goSecond : GoodIn wsX4_unwilling (wsV RX4 182 RX3 yX3_goSecond wsX3_goSecond) := goodIn_app (goodIn_of _ (by decide +kernel)) ggX4_unwilling_X3_goSecond
theorem dX4_unwilling_0 : decode cX4_unwilling 0 = .ok (.aload_n 0, 1) := by decide +kernel
theorem dX4_unwilling_1 : decode cX4_unwilling 1 = .ok (.invokevirtual 174, 3) := by decide +kernel
theorem dX4_unwilling_4 : decode cX4_unwilling 4 = .ok (.astore_n 1, 1) := by decide +kernel
theorem dX4_unwilling_5 : decode cX4_unwilling 5 = .ok (.aload_n 1, 1) := by decide +kernel
theorem dX4_unwilling_6 : decode cX4_unwilling 6 = .ok (.invokevirtual 135, 3) := by decide +kernel
theorem dX4_unwilling_9 : decode cX4_unwilling 9 = .ok (.iconst 0, 1) := by decide +kernel
theorem dX4_unwilling_10 : decode cX4_unwilling 10 = .ok (.istore_n 2, 1) := by decide +kernel
theorem dX4_unwilling_11 : decode cX4_unwilling 11 = .ok (.iconst 0, 1) := by decide +kernel
theorem dX4_unwilling_12 : decode cX4_unwilling 12 = .ok (.istore_n 3, 1) := by decide +kernel
theorem dX4_unwilling_13 : decode cX4_unwilling 13 = .ok (.iload_n 3, 1) := by decide +kernel
theorem dX4_unwilling_14 : decode cX4_unwilling 14 = .ok (.sipush 2000, 3) := by decide +kernel
theorem dX4_unwilling_17 : decode cX4_unwilling 17 = .ok (.if_icmp .ge 90, 3) := by decide +kernel
theorem dX4_unwilling_20 : decode cX4_unwilling 20 = .ok (.aload_n 1, 1) := by decide +kernel
theorem dX4_unwilling_21 : decode cX4_unwilling 21 = .ok (.invokevirtual 163, 3) := by decide +kernel
theorem dX4_unwilling_24 : decode cX4_unwilling 24 = .ok (.ifCond .ne 83, 3) := by decide +kernel
theorem dX4_unwilling_27 : decode cX4_unwilling 27 = .ok (.aload_n 1, 1) := by decide +kernel
theorem dX4_unwilling_28 : decode cX4_unwilling 28 = .ok (.invokevirtual 124, 3) := by decide +kernel
theorem dX4_unwilling_31 : decode cX4_unwilling 31 = .ok (.istore 4, 2) := by decide +kernel
theorem dX4_unwilling_33 : decode cX4_unwilling 33 = .ok (.aload_n 1, 1) := by decide +kernel
theorem dX4_unwilling_34 : decode cX4_unwilling 34 = .ok (.iload 4, 2) := by decide +kernel
theorem dX4_unwilling_36 : decode cX4_unwilling 36 = .ok (.invokevirtual 73, 3) := by decide +kernel
theorem dX4_unwilling_39 : decode cX4_unwilling 39 = .ok (.ifCond .eq 26, 3) := by decide +kernel
theorem dX4_unwilling_42 : decode cX4_unwilling 42 = .ok (.aload_n 1, 1) := by decide +kernel
theorem dX4_unwilling_43 : decode cX4_unwilling 43 = .ok (.getfield 82, 3) := by decide +kernel
theorem dX4_unwilling_46 : decode cX4_unwilling 46 = .ok (.iload 4, 2) := by decide +kernel
theorem dX4_unwilling_48 : decode cX4_unwilling 48 = .ok (.iaload, 1) := by decide +kernel
theorem dX4_unwilling_49 : decode cX4_unwilling 49 = .ok (.aload_n 1, 1) := by decide +kernel
theorem dX4_unwilling_50 : decode cX4_unwilling 50 = .ok (.getfield 79, 3) := by decide +kernel
theorem dX4_unwilling_53 : decode cX4_unwilling 53 = .ok (.iload 4, 2) := by decide +kernel
theorem dX4_unwilling_55 : decode cX4_unwilling 55 = .ok (.iaload, 1) := by decide +kernel
theorem dX4_unwilling_56 : decode cX4_unwilling 56 = .ok (.iconst 4, 1) := by decide +kernel
theorem dX4_unwilling_57 : decode cX4_unwilling 57 = .ok (.isub, 1) := by decide +kernel
theorem dX4_unwilling_58 : decode cX4_unwilling 58 = .ok (.if_icmp .lt 7, 3) := by decide +kernel
theorem dX4_unwilling_61 : decode cX4_unwilling 61 = .ok (.iconst 1, 1) := by decide +kernel
theorem dX4_unwilling_62 : decode cX4_unwilling 62 = .ok (.goto 4, 3) := by decide +kernel
theorem dX4_unwilling_65 : decode cX4_unwilling 65 = .ok (.iconst 0, 1) := by decide +kernel
theorem dX4_unwilling_66 : decode cX4_unwilling 66 = .ok (.istore 5, 2) := by decide +kernel
theorem dX4_unwilling_68 : decode cX4_unwilling 68 = .ok (.aload_n 1, 1) := by decide +kernel
theorem dX4_unwilling_69 : decode cX4_unwilling 69 = .ok (.invokevirtual 182, 3) := by decide +kernel
theorem dX4_unwilling_72 : decode cX4_unwilling 72 = .ok (.iload 5, 2) := by decide +kernel
theorem dX4_unwilling_74 : decode cX4_unwilling 74 = .ok (.ifCond .eq 27, 3) := by decide +kernel
theorem dX4_unwilling_77 : decode cX4_unwilling 77 = .ok (.aload_n 1, 1) := by decide +kernel
theorem dX4_unwilling_78 : decode cX4_unwilling 78 = .ok (.getfield 193, 3) := by decide +kernel
theorem dX4_unwilling_81 : decode cX4_unwilling 81 = .ok (.iload 4, 2) := by decide +kernel
theorem dX4_unwilling_83 : decode cX4_unwilling 83 = .ok (.iaload, 1) := by decide +kernel
theorem dX4_unwilling_84 : decode cX4_unwilling 84 = .ok (.aload_n 1, 1) := by decide +kernel
theorem dX4_unwilling_85 : decode cX4_unwilling 85 = .ok (.getfield 79, 3) := by decide +kernel
theorem dX4_unwilling_88 : decode cX4_unwilling 88 = .ok (.iload 4, 2) := by decide +kernel
theorem dX4_unwilling_90 : decode cX4_unwilling 90 = .ok (.iaload, 1) := by decide +kernel
theorem dX4_unwilling_91 : decode cX4_unwilling 91 = .ok (.if_icmp .ge 10, 3) := by decide +kernel
theorem dX4_unwilling_94 : decode cX4_unwilling 94 = .ok (.iload_n 2, 1) := by decide +kernel
theorem dX4_unwilling_95 : decode cX4_unwilling 95 = .ok (.iconst 1, 1) := by decide +kernel
theorem dX4_unwilling_96 : decode cX4_unwilling 96 = .ok (.iload 4, 2) := by decide +kernel
theorem dX4_unwilling_98 : decode cX4_unwilling 98 = .ok (.ishl, 1) := by decide +kernel
theorem dX4_unwilling_99 : decode cX4_unwilling 99 = .ok (.ior, 1) := by decide +kernel
theorem dX4_unwilling_100 : decode cX4_unwilling 100 = .ok (.istore_n 2, 1) := by decide +kernel
theorem dX4_unwilling_101 : decode cX4_unwilling 101 = .ok (.iinc 3 1, 3) := by decide +kernel
theorem dX4_unwilling_104 : decode cX4_unwilling 104 = .ok (.goto (-91), 3) := by decide +kernel
theorem dX4_unwilling_107 : decode cX4_unwilling 107 = .ok (.iload_n 2, 1) := by decide +kernel
theorem dX4_unwilling_108 : decode cX4_unwilling 108 = .ok (.ireturn, 1) := by decide +kernel
set_option maxRecDepth 20000 in
theorem ggX4_feed_X4_found : GoodIn wsX4_feed wsX4_found := goodIn_r _ [9, 1, 10, 18, 19, 20, 21, 22, 23, 24] rfl (by decide +kernel)
set_option maxRecDepth 20000 in
theorem gX4_feed_X4_found : GoodIn wsX4_feed (wsV RX4 51 RX4 yX4_found wsX4_found) := goodIn_app (goodIn_of _ (by decide +kernel)) ggX4_feed_X4_found
set_option maxRecDepth 20000 in
theorem ggX4_feed_X2_add : GoodIn wsX4_feed wsX2_add := goodIn_r _ [15, 16, 17, 25, 26, 27, 28, 29, 30] rfl (by decide +kernel)
set_option maxRecDepth 20000 in
theorem gX4_feed_X2_add : GoodIn wsX4_feed (wsV RX4 199 RX2 yX2_add wsX2_add) := goodIn_app (goodIn_of _ (by decide +kernel)) ggX4_feed_X2_add
theorem dX4_feed_0 : decode cX4_feed 0 = .ok (.iload_n 2, 1) := by decide +kernel
theorem dX4_feed_1 : decode cX4_feed 1 = .ok (.iconst 1, 1) := by decide +kernel
theorem dX4_feed_2 : decode cX4_feed 2 = .ok (.if_icmp .lt 8, 3) := by decide +kernel
theorem dX4_feed_5 : decode cX4_feed 5 = .ok (.iload_n 2, 1) := by decide +kernel
theorem dX4_feed_6 : decode cX4_feed 6 = .ok (.iconst 4, 1) := by decide +kernel
theorem dX4_feed_7 : decode cX4_feed 7 = .ok (.if_icmp .le 10, 3) := by decide +kernel
theorem dX4_feed_10 : decode cX4_feed 10 = .ok (.aload_n 0, 1) := by decide +kernel
theorem dX4_feed_11 : decode cX4_feed 11 = .ok (.ldc 50, 2) := by decide +kernel
theorem dX4_feed_13 : decode cX4_feed 13 = .ok (.invokevirtual 51, 3) := by decide +kernel
theorem dX4_feed_16 : decode cX4_feed 16 = .ok (.ireturn, 1) := by decide +kernel
theorem dX4_feed_17 : decode cX4_feed 17 = .ok (.aload_n 0, 1) := by decide +kernel
theorem dX4_feed_18 : decode cX4_feed 18 = .ok (.getfield 25, 3) := by decide +kernel
theorem dX4_feed_21 : decode cX4_feed 21 = .ok (.getfield 196, 3) := by decide +kernel
theorem dX4_feed_24 : decode cX4_feed 24 = .ok (.iload_n 2, 1) := by decide +kernel
theorem dX4_feed_25 : decode cX4_feed 25 = .ok (.iadd, 1) := by decide +kernel
theorem dX4_feed_26 : decode cX4_feed 26 = .ok (.bipush 120, 2) := by decide +kernel
theorem dX4_feed_28 : decode cX4_feed 28 = .ok (.if_icmp .le 10, 3) := by decide +kernel
theorem dX4_feed_31 : decode cX4_feed 31 = .ok (.aload_n 0, 1) := by decide +kernel
theorem dX4_feed_32 : decode cX4_feed 32 = .ok (.ldc 68, 2) := by decide +kernel
theorem dX4_feed_34 : decode cX4_feed 34 = .ok (.invokevirtual 51, 3) := by decide +kernel
theorem dX4_feed_37 : decode cX4_feed 37 = .ok (.ireturn, 1) := by decide +kernel
theorem dX4_feed_38 : decode cX4_feed 38 = .ok (.iload_n 2, 1) := by decide +kernel
theorem dX4_feed_39 : decode cX4_feed 39 = .ok (.iconst 1, 1) := by decide +kernel
theorem dX4_feed_40 : decode cX4_feed 40 = .ok (.isub, 1) := by decide +kernel
theorem dX4_feed_41 : decode cX4_feed 41 = .ok (.istore_n 3, 1) := by decide +kernel
theorem dX4_feed_42 : decode cX4_feed 42 = .ok (.iload_n 3, 1) := by decide +kernel
theorem dX4_feed_43 : decode cX4_feed 43 = .ok (.ifCond .lt 22, 3) := by decide +kernel
theorem dX4_feed_46 : decode cX4_feed 46 = .ok (.aload_n 0, 1) := by decide +kernel
theorem dX4_feed_47 : decode cX4_feed 47 = .ok (.getfield 25, 3) := by decide +kernel
theorem dX4_feed_50 : decode cX4_feed 50 = .ok (.iload_n 1, 1) := by decide +kernel
theorem dX4_feed_51 : decode cX4_feed 51 = .ok (.bipush 8, 2) := by decide +kernel
theorem dX4_feed_53 : decode cX4_feed 53 = .ok (.iload_n 3, 1) := by decide +kernel
theorem dX4_feed_54 : decode cX4_feed 54 = .ok (.imul, 1) := by decide +kernel
theorem dX4_feed_55 : decode cX4_feed 55 = .ok (.iushr, 1) := by decide +kernel
theorem dX4_feed_56 : decode cX4_feed 56 = .ok (.invokevirtual 199, 3) := by decide +kernel
theorem dX4_feed_59 : decode cX4_feed 59 = .ok (.iinc 3 (-1), 3) := by decide +kernel
theorem dX4_feed_62 : decode cX4_feed 62 = .ok (.goto (-20), 3) := by decide +kernel
theorem dX4_feed_65 : decode cX4_feed 65 = .ok (.aload_n 0, 1) := by decide +kernel
theorem dX4_feed_66 : decode cX4_feed 66 = .ok (.getfield 25, 3) := by decide +kernel
theorem dX4_feed_69 : decode cX4_feed 69 = .ok (.getfield 196, 3) := by decide +kernel
theorem dX4_feed_72 : decode cX4_feed 72 = .ok (.ireturn, 1) := by decide +kernel
set_option maxRecDepth 20000 in
theorem ggX4_wipe_X2_empty : GoodIn wsX4_wipe wsX2_empty := goodIn_r _ [6, 7, 15, 16, 17, 18, 19, 20] rfl (by decide +kernel)
set_option maxRecDepth 20000 in
theorem gX4_wipe_X2_empty : GoodIn wsX4_wipe (wsV RX4 201 RX2 yX2_empty wsX2_empty) := goodIn_app (goodIn_of _ (by decide +kernel)) ggX4_wipe_X2_empty
theorem dX4_wipe_0 : decode cX4_wipe 0 = .ok (.aload_n 0, 1) := by decide +kernel
theorem dX4_wipe_1 : decode cX4_wipe 1 = .ok (.getfield 25, 3) := by decide +kernel
theorem dX4_wipe_4 : decode cX4_wipe 4 = .ok (.invokevirtual 201, 3) := by decide +kernel
theorem dX4_wipe_7 : decode cX4_wipe 7 = .ok (.ireturn, 1) := by decide +kernel
set_option maxRecDepth 20000 in
theorem ggX4_text_X4_tryOut : GoodIn wsX4_text wsX4_tryOut := goodIn_r _ [7, 8, 2, 9, 10, 11, 12, 13, 14, 15, 16, 17, 18, 19, 20, 21, 22, 23, 24, 25, 26, 27, 158, 159, 160, 161, 162, 163, 164, 165, 166, 167, 168, 169, 170, 171, 172, 173, 174, 175, 176, 177, 178, 179] rfl (by decide +kernel)
set_option maxRecDepth 20000 in
theorem gX4_text_X4_tryOut : GoodIn wsX4_text (wsV RX4 174 RX4 yX4_tryOut wsX4_tryOut) := goodIn_app (goodIn_of _ (by decide +kernel)) ggX4_text_X4_tryOut
set_option maxRecDepth 20000 in
theorem ggX4_text_X2_readRace : GoodIn wsX4_text wsX2_readRace := goodIn_r _ [32, 33, 34, 35, 36, 37, 38, 31, 39, 40, 41, 42, 43, 44, 45, 46, 47, 48, 49, 50, 51, 52, 53, 54, 55, 56, 57, 58, 59, 60, 61, 62, 63, 64, 65, 66, 67, 68, 69, 70, 71, 72, 73, 74, 75, 76, 77, 78, 79, 80, 81, 82, 83, 84, 85, 86, 87, 88, 89, 90, 91, 92, 93, 94, 95, 96, 97, 98, 99, 100, 101, 102, 103, 104, 105, 106, 107, 108, 109, 110, 111, 112, 113, 114, 115, 116, 117, 118, 119, 120, 121, 122, 123, 124, 125, 126, 127, 128, 129, 130, 131, 132, 133, 134, 12, 135, 18, 20, 21, 22, 23, 24, 25, 26, 27, 136, 137, 138, 139, 140, 141, 142, 143, 144, 145, 146, 147, 148, 149, 150, 151, 152, 153, 180, 181, 182, 183, 184, 185, 165, 166, 167, 168, 169, 170, 171, 172, 173, 174, 175, 176, 177, 178, 179] rfl (by decide +kernel)
set_option maxRecDepth 20000 in
theorem gX4_text_X2_readRace : GoodIn wsX4_text (wsV RX4 204 RX2 yX2_readRace wsX2_readRace) := goodIn_app (goodIn_of _ (by decide +kernel)) ggX4_text_X2_readRace
set_option maxRecDepth 20000 in
theorem ggX4_text_X2_empty : GoodIn wsX4_text wsX2_empty := goodIn_r _ [157, 40, 180, 181, 182, 183, 184, 185] rfl (by decide +kernel)
set_option maxRecDepth 20000 in
theorem gX4_text_X2_empty : GoodIn wsX4_text (wsV RX4 201 RX2 yX2_empty wsX2_empty) := goodIn_app (goodIn_of _ (by decide +kernel)) ggX4_text_X2_empty
set_option maxRecDepth 20000 in
theorem ggX4_text_X3_takeOver : GoodIn wsX4_text wsX3_takeOver := goodIn_r _ [13, 14, 15, 16, 17, 18, 19, 20, 21, 22, 23, 24, 25, 26, 27, 165, 166, 167, 168, 169, 170, 171, 172, 173, 174, 175, 176, 177, 178, 179] rfl (by decide +kernel)
set_option maxRecDepth 20000 in
theorem gX4_text_X3_takeOver : GoodIn wsX4_text (wsV RX4 208 RX3 yX3_takeOver wsX3_takeOver) := goodIn_app (goodIn_of _ (by decide +kernel)) ggX4_text_X3_takeOver
theorem dX4_text_0 : decode cX4_text 0 = .ok (.aload_n 0, 1) := by decide +kernel
theorem dX4_text_1 : decode cX4_text 1 = .ok (.invokevirtual 174, 3) := by decide +kernel
theorem dX4_text_4 : decode cX4_text 4 = .ok (.astore_n 1, 1) := by decide +kernel
theorem dX4_text_5 : decode cX4_text 5 = .ok (.aload_n 0, 1) := by decide +kernel
theorem dX4_text_6 : decode cX4_text 6 = .ok (.getfield 25, 3) := by decide +kernel
theorem dX4_text_9 : decode cX4_text 9 = .ok (.aload_n 1, 1) := by decide +kernel
theorem dX4_text_10 : decode cX4_text 10 = .ok (.invokevirtual 204, 3) := by decide +kernel
theorem dX4_text_13 : decode cX4_text 13 = .ok (.istore_n 2, 1) := by decide +kernel
theorem dX4_text_14 : decode cX4_text 14 = .ok (.aload_n 0, 1) := by decide +kernel
theorem dX4_text_15 : decode cX4_text 15 = .ok (.getfield 25, 3) := by decide +kernel
theorem dX4_text_18 : decode cX4_text 18 = .ok (.invokevirtual 201, 3) := by decide +kernel
theorem dX4_text_21 : decode cX4_text 21 = .ok (.pop, 1) := by decide +kernel
theorem dX4_text_22 : decode cX4_text 22 = .ok (.iload_n 2, 1) := by decide +kernel
theorem dX4_text_23 : decode cX4_text 23 = .ok (.ifCond .lt 11, 3) := by decide +kernel
theorem dX4_text_26 : decode cX4_text 26 = .ok (.aload_n 0, 1) := by decide +kernel
theorem dX4_text_27 : decode cX4_text 27 = .ok (.getfield 10, 3) := by decide +kernel
theorem dX4_text_30 : decode cX4_text 30 = .ok (.aload_n 1, 1) := by decide +kernel
theorem dX4_text_31 : decode cX4_text 31 = .ok (.invokevirtual 208, 3) := by decide +kernel
theorem dX4_text_34 : decode cX4_text 34 = .ok (.iload_n 2, 1) := by decide +kernel
theorem dX4_text_35 : decode cX4_text 35 = .ok (.ireturn, 1) := by decide +kernel
set_option maxRecDepth 20000 in
theorem ggX4_sheet_X4_isSheet : GoodIn wsX4_sheet wsX4_isSheet := goodIn_r _ [7] rfl (by decide +kernel)
set_option maxRecDepth 20000 in
theorem gX4_sheet_X4_isSheet : GoodIn wsX4_sheet (va_wsS RX4 212 yX4_isSheet wsX4_isSheet) := goodIn_app (goodIn_of _ (by decide +kernel)) ggX4_sheet_X4_isSheet
set_option maxRecDepth 20000 in
theorem ggX4_sheet_X4_isWidth : GoodIn wsX4_sheet wsX4_isWidth := goodIn_r _ [10] rfl (by decide +kernel)
set_option maxRecDepth 20000 in
theorem gX4_sheet_X4_isWidth : GoodIn wsX4_sheet (va_wsS RX4 215 yX4_isWidth wsX4_isWidth) := goodIn_app (goodIn_of _ (by decide +kernel)) ggX4_sheet_X4_isWidth
set_option maxRecDepth 20000 in
theorem ggX4_sheet_X4_found : GoodIn wsX4_sheet wsX4_found := goodIn_r _ [14, 1, 15, 28, 29, 30, 31, 32, 33, 34] rfl (by decide +kernel)
set_option maxRecDepth 20000 in
theorem gX4_sheet_X4_found : GoodIn wsX4_sheet (wsV RX4 51 RX4 yX4_found wsX4_found) := goodIn_app (goodIn_of _ (by decide +kernel)) ggX4_sheet_X4_found
set_option maxRecDepth 20000 in
theorem ggX4_sheet_X1_lay : GoodIn wsX4_sheet wsX1_lay := goodIn_r _ [20, 21, 22, 23, 24, 25, 26, 27, 35, 36, 37] rfl (by decide +kernel)
set_option maxRecDepth 20000 in
theorem gX4_sheet_X1_lay : GoodIn wsX4_sheet (wsV RX4 219 RX1 yX1_lay wsX1_lay) := goodIn_app (goodIn_of _ (by decide +kernel)) ggX4_sheet_X1_lay
theorem dX4_sheet_0 : decode cX4_sheet 0 = .ok (.iload_n 1, 1) := by decide +kernel
theorem dX4_sheet_1 : decode cX4_sheet 1 = .ok (.invokestatic 212, 3) := by decide +kernel
theorem dX4_sheet_4 : decode cX4_sheet 4 = .ok (.ifCond .eq 10, 3) := by decide +kernel
theorem dX4_sheet_7 : decode cX4_sheet 7 = .ok (.iload_n 2, 1) := by decide +kernel
theorem dX4_sheet_8 : decode cX4_sheet 8 = .ok (.invokestatic 215, 3) := by decide +kernel
theorem dX4_sheet_11 : decode cX4_sheet 11 = .ok (.ifCond .ne 10, 3) := by decide +kernel
theorem dX4_sheet_14 : decode cX4_sheet 14 = .ok (.aload_n 0, 1) := by decide +kernel
theorem dX4_sheet_15 : decode cX4_sheet 15 = .ok (.ldc 50, 2) := by decide +kernel
theorem dX4_sheet_17 : decode cX4_sheet 17 = .ok (.invokevirtual 51, 3) := by decide +kernel
theorem dX4_sheet_20 : decode cX4_sheet 20 = .ok (.ireturn, 1) := by decide +kernel
theorem dX4_sheet_21 : decode cX4_sheet 21 = .ok (.iload_n 3, 1) := by decide +kernel
theorem dX4_sheet_22 : decode cX4_sheet 22 = .ok (.ifCond .ge 10, 3) := by decide +kernel
theorem dX4_sheet_25 : decode cX4_sheet 25 = .ok (.aload_n 0, 1) := by decide +kernel
theorem dX4_sheet_26 : decode cX4_sheet 26 = .ok (.ldc 218, 2) := by decide +kernel
theorem dX4_sheet_28 : decode cX4_sheet 28 = .ok (.invokevirtual 51, 3) := by decide +kernel
theorem dX4_sheet_31 : decode cX4_sheet 31 = .ok (.ireturn, 1) := by decide +kernel
theorem dX4_sheet_32 : decode cX4_sheet 32 = .ok (.iload_n 3, 1) := by decide +kernel
theorem dX4_sheet_33 : decode cX4_sheet 33 = .ok (.bipush 40, 2) := by decide +kernel
theorem dX4_sheet_35 : decode cX4_sheet 35 = .ok (.if_icmp .le 10, 3) := by decide +kernel
theorem dX4_sheet_38 : decode cX4_sheet 38 = .ok (.aload_n 0, 1) := by decide +kernel
theorem dX4_sheet_39 : decode cX4_sheet 39 = .ok (.ldc 50, 2) := by decide +kernel
theorem dX4_sheet_41 : decode cX4_sheet 41 = .ok (.invokevirtual 51, 3) := by decide +kernel
theorem dX4_sheet_44 : decode cX4_sheet 44 = .ok (.ireturn, 1) := by decide +kernel
theorem dX4_sheet_45 : decode cX4_sheet 45 = .ok (.aload_n 0, 1) := by decide +kernel
theorem dX4_sheet_46 : decode cX4_sheet 46 = .ok (.getfield 31, 3) := by decide +kernel
theorem dX4_sheet_49 : decode cX4_sheet 49 = .ok (.iload_n 1, 1) := by decide +kernel
theorem dX4_sheet_50 : decode cX4_sheet 50 = .ok (.aaload, 1) := by decide +kernel
theorem dX4_sheet_51 : decode cX4_sheet 51 = .ok (.iload_n 2, 1) := by decide +kernel
theorem dX4_sheet_52 : decode cX4_sheet 52 = .ok (.iload_n 3, 1) := by decide +kernel
theorem dX4_sheet_53 : decode cX4_sheet 53 = .ok (.invokevirtual 219, 3) := by decide +kernel
theorem dX4_sheet_56 : decode cX4_sheet 56 = .ok (.ireturn, 1) := by decide +kernel
set_option maxRecDepth 20000 in
theorem ggX4_write_X4_sheetRefusal : GoodIn wsX4_write wsX4_sheetRefusal := goodIn_r _ [8, 2, 1, 9, 10, 11, 7, 12, 13, 14, 15, 16, 17, 18, 39, 40, 41, 42, 43, 44, 45, 46, 47, 48] rfl (by decide +kernel)
set_option maxRecDepth 20000 in
theorem gX4_write_X4_sheetRefusal : GoodIn wsX4_write (wsV RX4 222 RX4 yX4_sheetRefusal wsX4_sheetRefusal) := goodIn_app (goodIn_of _ (by decide +kernel)) ggX4_write_X4_sheetRefusal
set_option maxRecDepth 20000 in
theorem ggX4_write_X4_found : GoodIn wsX4_write wsX4_found := goodIn_r _ [22, 2, 23, 39, 40, 41, 42, 43, 44, 45] rfl (by decide +kernel)
set_option maxRecDepth 20000 in
theorem gX4_write_X4_found : GoodIn wsX4_write (wsV RX4 51 RX4 yX4_found wsX4_found) := goodIn_app (goodIn_of _ (by decide +kernel)) ggX4_write_X4_found
set_option maxRecDepth 20000 in
theorem ggX4_write_X1_has : GoodIn wsX4_write wsX1_has := goodIn_r _ [27, 28, 46, 47, 48] rfl (by decide +kernel)
set_option maxRecDepth 20000 in
theorem gX4_write_X1_has : GoodIn wsX4_write (wsV RX4 225 RX1 yX1_has wsX1_has) := goodIn_app (goodIn_of _ (by decide +kernel)) ggX4_write_X1_has
set_option maxRecDepth 20000 in
theorem ggX4_write_X1_put : GoodIn wsX4_write wsX1_put := goodIn_r _ [32, 33, 34, 25, 26, 16, 27, 28, 35, 36, 37, 38, 18, 46, 47, 48] rfl (by decide +kernel)
set_option maxRecDepth 20000 in
theorem gX4_write_X1_put : GoodIn wsX4_write (wsV RX4 230 RX1 yX1_put wsX1_put) := goodIn_app (goodIn_of _ (by decide +kernel)) ggX4_write_X1_put
theorem dX4_write_0 : decode cX4_write 0 = .ok (.aload_n 0, 1) := by decide +kernel
theorem dX4_write_1 : decode cX4_write 1 = .ok (.iload_n 1, 1) := by decide +kernel
theorem dX4_write_2 : decode cX4_write 2 = .ok (.invokevirtual 222, 3) := by decide +kernel
theorem dX4_write_5 : decode cX4_write 5 = .ok (.istore 5, 2) := by decide +kernel
theorem dX4_write_7 : decode cX4_write 7 = .ok (.iload 5, 2) := by decide +kernel
theorem dX4_write_9 : decode cX4_write 9 = .ok (.ifCond .eq 11, 3) := by decide +kernel
theorem dX4_write_12 : decode cX4_write 12 = .ok (.aload_n 0, 1) := by decide +kernel
theorem dX4_write_13 : decode cX4_write 13 = .ok (.iload 5, 2) := by decide +kernel
theorem dX4_write_15 : decode cX4_write 15 = .ok (.invokevirtual 51, 3) := by decide +kernel
theorem dX4_write_18 : decode cX4_write 18 = .ok (.i2l, 1) := by decide +kernel
theorem dX4_write_19 : decode cX4_write 19 = .ok (.lreturn, 1) := by decide +kernel
theorem dX4_write_20 : decode cX4_write 20 = .ok (.aload_n 0, 1) := by decide +kernel
theorem dX4_write_21 : decode cX4_write 21 = .ok (.getfield 31, 3) := by decide +kernel
theorem dX4_write_24 : decode cX4_write 24 = .ok (.iload_n 1, 1) := by decide +kernel
theorem dX4_write_25 : decode cX4_write 25 = .ok (.aaload, 1) := by decide +kernel
theorem dX4_write_26 : decode cX4_write 26 = .ok (.iload_n 2, 1) := by decide +kernel
theorem dX4_write_27 : decode cX4_write 27 = .ok (.invokevirtual 225, 3) := by decide +kernel
theorem dX4_write_30 : decode cX4_write 30 = .ok (.ifCond .ne 11, 3) := by decide +kernel
theorem dX4_write_33 : decode cX4_write 33 = .ok (.aload_n 0, 1) := by decide +kernel
theorem dX4_write_34 : decode cX4_write 34 = .ok (.ldc 50, 2) := by decide +kernel
theorem dX4_write_36 : decode cX4_write 36 = .ok (.invokevirtual 51, 3) := by decide +kernel
theorem dX4_write_39 : decode cX4_write 39 = .ok (.i2l, 1) := by decide +kernel
theorem dX4_write_40 : decode cX4_write 40 = .ok (.lreturn, 1) := by decide +kernel
theorem dX4_write_41 : decode cX4_write 41 = .ok (.aload_n 0, 1) := by decide +kernel
theorem dX4_write_42 : decode cX4_write 42 = .ok (.getfield 31, 3) := by decide +kernel
theorem dX4_write_45 : decode cX4_write 45 = .ok (.iload_n 1, 1) := by decide +kernel
theorem dX4_write_46 : decode cX4_write 46 = .ok (.aaload, 1) := by decide +kernel
theorem dX4_write_47 : decode cX4_write 47 = .ok (.getfield 226, 3) := by decide +kernel
theorem dX4_write_50 : decode cX4_write 50 = .ok (.iload_n 2, 1) := by decide +kernel
theorem dX4_write_51 : decode cX4_write 51 = .ok (.laload, 1) := by decide +kernel
theorem dX4_write_52 : decode cX4_write 52 = .ok (.lstore 6, 2) := by decide +kernel
theorem dX4_write_54 : decode cX4_write 54 = .ok (.aload_n 0, 1) := by decide +kernel
theorem dX4_write_55 : decode cX4_write 55 = .ok (.getfield 31, 3) := by decide +kernel
theorem dX4_write_58 : decode cX4_write 58 = .ok (.iload_n 1, 1) := by decide +kernel
theorem dX4_write_59 : decode cX4_write 59 = .ok (.aaload, 1) := by decide +kernel
theorem dX4_write_60 : decode cX4_write 60 = .ok (.iload_n 2, 1) := by decide +kernel
theorem dX4_write_61 : decode cX4_write 61 = .ok (.lload_n 3, 1) := by decide +kernel
theorem dX4_write_62 : decode cX4_write 62 = .ok (.invokevirtual 230, 3) := by decide +kernel
theorem dX4_write_65 : decode cX4_write 65 = .ok (.lload 6, 2) := by decide +kernel
theorem dX4_write_67 : decode cX4_write 67 = .ok (.lreturn, 1) := by decide +kernel
set_option maxRecDepth 20000 in
theorem ggX4_copy_X4_isSheet : GoodIn wsX4_copy wsX4_isSheet := goodIn_r _ [14] rfl (by decide +kernel)
set_option maxRecDepth 20000 in
theorem gX4_copy_X4_isSheet : GoodIn wsX4_copy (va_wsS RX4 212 yX4_isSheet wsX4_isSheet) := goodIn_app (goodIn_of _ (by decide +kernel)) ggX4_copy_X4_isSheet
set_option maxRecDepth 20000 in
theorem ggX4_copy_X4_found : GoodIn wsX4_copy wsX4_found := goodIn_r _ [18, 1, 19, 31, 32, 33, 34, 35, 36, 37] rfl (by decide +kernel)
set_option maxRecDepth 20000 in
theorem gX4_copy_X4_found : GoodIn wsX4_copy (wsV RX4 51 RX4 yX4_found wsX4_found) := goodIn_app (goodIn_of _ (by decide +kernel)) ggX4_copy_X4_found
set_option maxRecDepth 20000 in
theorem ggX4_copy_X1_isMissing : GoodIn wsX4_copy wsX1_isMissing := goodIn_r _ [24, 25, 38, 39, 40] rfl (by decide +kernel)
set_option maxRecDepth 20000 in
theorem gX4_copy_X1_isMissing : GoodIn wsX4_copy (wsV RX4 234 RX1 yX1_isMissing wsX1_isMissing) := goodIn_app (goodIn_of _ (by decide +kernel)) ggX4_copy_X1_isMissing
set_option maxRecDepth 20000 in
theorem ggX4_copy_X1_hasRow : GoodIn wsX4_copy wsX1_hasRow := goodIn_r _ [29, 30, 38, 39, 40] rfl (by decide +kernel)
set_option maxRecDepth 20000 in
theorem gX4_copy_X1_hasRow : GoodIn wsX4_copy (wsV RX4 241 RX1 yX1_hasRow wsX1_hasRow) := goodIn_app (goodIn_of _ (by decide +kernel)) ggX4_copy_X1_hasRow
theorem dX4_copy_0 : decode cX4_copy 0 = .ok (.iload_n 1, 1) := by decide +kernel
theorem dX4_copy_1 : decode cX4_copy 1 = .ok (.invokestatic 212, 3) := by decide +kernel
theorem dX4_copy_4 : decode cX4_copy 4 = .ok (.ifCond .eq 10, 3) := by decide +kernel
theorem dX4_copy_7 : decode cX4_copy 7 = .ok (.iload_n 3, 1) := by decide +kernel
theorem dX4_copy_8 : decode cX4_copy 8 = .ok (.invokestatic 212, 3) := by decide +kernel
theorem dX4_copy_11 : decode cX4_copy 11 = .ok (.ifCond .ne 10, 3) := by decide +kernel
theorem dX4_copy_14 : decode cX4_copy 14 = .ok (.aload_n 0, 1) := by decide +kernel
theorem dX4_copy_15 : decode cX4_copy 15 = .ok (.ldc 50, 2) := by decide +kernel
theorem dX4_copy_17 : decode cX4_copy 17 = .ok (.invokevirtual 51, 3) := by decide +kernel
theorem dX4_copy_20 : decode cX4_copy 20 = .ok (.ireturn, 1) := by decide +kernel
theorem dX4_copy_21 : decode cX4_copy 21 = .ok (.aload_n 0, 1) := by decide +kernel
theorem dX4_copy_22 : decode cX4_copy 22 = .ok (.getfield 31, 3) := by decide +kernel
theorem dX4_copy_25 : decode cX4_copy 25 = .ok (.iload_n 1, 1) := by decide +kernel
theorem dX4_copy_26 : decode cX4_copy 26 = .ok (.aaload, 1) := by decide +kernel
theorem dX4_copy_27 : decode cX4_copy 27 = .ok (.invokevirtual 234, 3) := by decide +kernel
theorem dX4_copy_30 : decode cX4_copy 30 = .ok (.ifCond .ne 15, 3) := by decide +kernel
theorem dX4_copy_33 : decode cX4_copy 33 = .ok (.aload_n 0, 1) := by decide +kernel
theorem dX4_copy_34 : decode cX4_copy 34 = .ok (.getfield 31, 3) := by decide +kernel
theorem dX4_copy_37 : decode cX4_copy 37 = .ok (.iload_n 3, 1) := by decide +kernel
theorem dX4_copy_38 : decode cX4_copy 38 = .ok (.aaload, 1) := by decide +kernel
theorem dX4_copy_39 : decode cX4_copy 39 = .ok (.invokevirtual 234, 3) := by decide +kernel
theorem dX4_copy_42 : decode cX4_copy 42 = .ok (.ifCond .eq 10, 3) := by decide +kernel
theorem dX4_copy_45 : decode cX4_copy 45 = .ok (.aload_n 0, 1) := by decide +kernel
theorem dX4_copy_46 : decode cX4_copy 46 = .ok (.ldc 237, 2) := by decide +kernel
theorem dX4_copy_48 : decode cX4_copy 48 = .ok (.invokevirtual 51, 3) := by decide +kernel
theorem dX4_copy_51 : decode cX4_copy 51 = .ok (.ireturn, 1) := by decide +kernel
theorem dX4_copy_52 : decode cX4_copy 52 = .ok (.aload_n 0, 1) := by decide +kernel
theorem dX4_copy_53 : decode cX4_copy 53 = .ok (.getfield 31, 3) := by decide +kernel
theorem dX4_copy_56 : decode cX4_copy 56 = .ok (.iload_n 1, 1) := by decide +kernel
theorem dX4_copy_57 : decode cX4_copy 57 = .ok (.aaload, 1) := by decide +kernel
theorem dX4_copy_58 : decode cX4_copy 58 = .ok (.getfield 238, 3) := by decide +kernel
theorem dX4_copy_61 : decode cX4_copy 61 = .ok (.aload_n 0, 1) := by decide +kernel
theorem dX4_copy_62 : decode cX4_copy 62 = .ok (.getfield 31, 3) := by decide +kernel
theorem dX4_copy_65 : decode cX4_copy 65 = .ok (.iload_n 3, 1) := by decide +kernel
theorem dX4_copy_66 : decode cX4_copy 66 = .ok (.aaload, 1) := by decide +kernel
theorem dX4_copy_67 : decode cX4_copy 67 = .ok (.getfield 238, 3) := by decide +kernel
theorem dX4_copy_70 : decode cX4_copy 70 = .ok (.if_icmp .eq 10, 3) := by decide +kernel
theorem dX4_copy_73 : decode cX4_copy 73 = .ok (.aload_n 0, 1) := by decide +kernel
theorem dX4_copy_74 : decode cX4_copy 74 = .ok (.ldc 119, 2) := by decide +kernel
theorem dX4_copy_76 : decode cX4_copy 76 = .ok (.invokevirtual 51, 3) := by decide +kernel
theorem dX4_copy_79 : decode cX4_copy 79 = .ok (.ireturn, 1) := by decide +kernel
theorem dX4_copy_80 : decode cX4_copy 80 = .ok (.aload_n 0, 1) := by decide +kernel
theorem dX4_copy_81 : decode cX4_copy 81 = .ok (.getfield 31, 3) := by decide +kernel
theorem dX4_copy_84 : decode cX4_copy 84 = .ok (.iload_n 1, 1) := by decide +kernel
theorem dX4_copy_85 : decode cX4_copy 85 = .ok (.aaload, 1) := by decide +kernel
theorem dX4_copy_86 : decode cX4_copy 86 = .ok (.iload_n 2, 1) := by decide +kernel
theorem dX4_copy_87 : decode cX4_copy 87 = .ok (.iload 5, 2) := by decide +kernel
theorem dX4_copy_89 : decode cX4_copy 89 = .ok (.invokevirtual 241, 3) := by decide +kernel
theorem dX4_copy_92 : decode cX4_copy 92 = .ok (.ifCond .eq 19, 3) := by decide +kernel
theorem dX4_copy_95 : decode cX4_copy 95 = .ok (.aload_n 0, 1) := by decide +kernel
theorem dX4_copy_96 : decode cX4_copy 96 = .ok (.getfield 31, 3) := by decide +kernel
theorem dX4_copy_99 : decode cX4_copy 99 = .ok (.iload_n 3, 1) := by decide +kernel
theorem dX4_copy_100 : decode cX4_copy 100 = .ok (.aaload, 1) := by decide +kernel
theorem dX4_copy_101 : decode cX4_copy 101 = .ok (.iload 4, 2) := by decide +kernel
theorem dX4_copy_103 : decode cX4_copy 103 = .ok (.iload 5, 2) := by decide +kernel
theorem dX4_copy_105 : decode cX4_copy 105 = .ok (.invokevirtual 241, 3) := by decide +kernel
theorem dX4_copy_108 : decode cX4_copy 108 = .ok (.ifCond .ne 10, 3) := by decide +kernel
theorem dX4_copy_111 : decode cX4_copy 111 = .ok (.aload_n 0, 1) := by decide +kernel
theorem dX4_copy_112 : decode cX4_copy 112 = .ok (.ldc 50, 2) := by decide +kernel
theorem dX4_copy_114 : decode cX4_copy 114 = .ok (.invokevirtual 51, 3) := by decide +kernel
theorem dX4_copy_117 : decode cX4_copy 117 = .ok (.ireturn, 1) := by decide +kernel
theorem dX4_copy_118 : decode cX4_copy 118 = .ok (.aload_n 0, 1) := by decide +kernel
theorem dX4_copy_119 : decode cX4_copy 119 = .ok (.getfield 31, 3) := by decide +kernel
theorem dX4_copy_122 : decode cX4_copy 122 = .ok (.iload_n 1, 1) := by decide +kernel
theorem dX4_copy_123 : decode cX4_copy 123 = .ok (.aaload, 1) := by decide +kernel
theorem dX4_copy_124 : decode cX4_copy 124 = .ok (.getfield 226, 3) := by decide +kernel
theorem dX4_copy_127 : decode cX4_copy 127 = .ok (.iload_n 2, 1) := by decide +kernel
theorem dX4_copy_128 : decode cX4_copy 128 = .ok (.aload_n 0, 1) := by decide +kernel
theorem dX4_copy_129 : decode cX4_copy 129 = .ok (.getfield 31, 3) := by decide +kernel
theorem dX4_copy_132 : decode cX4_copy 132 = .ok (.iload_n 3, 1) := by decide +kernel
theorem dX4_copy_133 : decode cX4_copy 133 = .ok (.aaload, 1) := by decide +kernel
theorem dX4_copy_134 : decode cX4_copy 134 = .ok (.getfield 226, 3) := by decide +kernel
theorem dX4_copy_137 : decode cX4_copy 137 = .ok (.iload 4, 2) := by decide +kernel
theorem dX4_copy_139 : decode cX4_copy 139 = .ok (.iload 5, 2) := by decide +kernel
theorem dX4_copy_141 : decode cX4_copy 141 = .ok (.invokestatic 244, 3) := by decide +kernel
theorem dX4_copy_144 : decode cX4_copy 144 = .ok (.iload 5, 2) := by decide +kernel
theorem dX4_copy_146 : decode cX4_copy 146 = .ok (.ireturn, 1) := by decide +kernel
set_option maxRecDepth 20000 in
theorem ggX4_lays_X4_sheetRefusal : GoodIn wsX4_lays wsX4_sheetRefusal := goodIn_r _ [12, 13, 1, 14, 15, 16, 11, 17, 18, 19, 20, 21, 22, 23, 29, 30, 31, 32, 33, 34, 35, 36, 37, 38] rfl (by decide +kernel)
set_option maxRecDepth 20000 in
theorem gX4_lays_X4_sheetRefusal : GoodIn wsX4_lays (wsV RX4 222 RX4 yX4_sheetRefusal wsX4_sheetRefusal) := goodIn_app (goodIn_of _ (by decide +kernel)) ggX4_lays_X4_sheetRefusal
set_option maxRecDepth 20000 in
theorem ggX4_lays_X4_found : GoodIn wsX4_lays wsX4_found := goodIn_r _ [27, 13, 28, 29, 30, 31, 32, 33, 34, 35] rfl (by decide +kernel)
set_option maxRecDepth 20000 in
theorem gX4_lays_X4_found : GoodIn wsX4_lays (wsV RX4 51 RX4 yX4_found wsX4_found) := goodIn_app (goodIn_of _ (by decide +kernel)) ggX4_lays_X4_found
theorem dX4_lays_0 : decode cX4_lays 0 = .ok (.aload_n 0, 1) := by decide +kernel
theorem dX4_lays_1 : decode cX4_lays 1 = .ok (.iload_n 1, 1) := by decide +kernel
theorem dX4_lays_2 : decode cX4_lays 2 = .ok (.invokevirtual 222, 3) := by decide +kernel
theorem dX4_lays_5 : decode cX4_lays 5 = .ok (.istore_n 2, 1) := by decide +kernel
theorem dX4_lays_6 : decode cX4_lays 6 = .ok (.iload_n 2, 1) := by decide +kernel
theorem dX4_lays_7 : decode cX4_lays 7 = .ok (.ifCond .eq 9, 3) := by decide +kernel
theorem dX4_lays_10 : decode cX4_lays 10 = .ok (.aload_n 0, 1) := by decide +kernel
theorem dX4_lays_11 : decode cX4_lays 11 = .ok (.iload_n 2, 1) := by decide +kernel
theorem dX4_lays_12 : decode cX4_lays 12 = .ok (.invokevirtual 51, 3) := by decide +kernel
theorem dX4_lays_15 : decode cX4_lays 15 = .ok (.ireturn, 1) := by decide +kernel
theorem dX4_lays_16 : decode cX4_lays 16 = .ok (.aload_n 0, 1) := by decide +kernel
theorem dX4_lays_17 : decode cX4_lays 17 = .ok (.getfield 31, 3) := by decide +kernel
theorem dX4_lays_20 : decode cX4_lays 20 = .ok (.iload_n 1, 1) := by decide +kernel
theorem dX4_lays_21 : decode cX4_lays 21 = .ok (.aaload, 1) := by decide +kernel
theorem dX4_lays_22 : decode cX4_lays 22 = .ok (.astore_n 3, 1) := by decide +kernel
theorem dX4_lays_23 : decode cX4_lays 23 = .ok (.iconst 0, 1) := by decide +kernel
theorem dX4_lays_24 : decode cX4_lays 24 = .ok (.istore 4, 2) := by decide +kernel
theorem dX4_lays_26 : decode cX4_lays 26 = .ok (.iconst 0, 1) := by decide +kernel
theorem dX4_lays_27 : decode cX4_lays 27 = .ok (.istore 5, 2) := by decide +kernel
theorem dX4_lays_29 : decode cX4_lays 29 = .ok (.iload 5, 2) := by decide +kernel
theorem dX4_lays_31 : decode cX4_lays 31 = .ok (.aload_n 3, 1) := by decide +kernel
theorem dX4_lays_32 : decode cX4_lays 32 = .ok (.getfield 250, 3) := by decide +kernel
theorem dX4_lays_35 : decode cX4_lays 35 = .ok (.if_icmp .ge 62, 3) := by decide +kernel
theorem dX4_lays_38 : decode cX4_lays 38 = .ok (.iload 5, 2) := by decide +kernel
theorem dX4_lays_40 : decode cX4_lays 40 = .ok (.aload_n 0, 1) := by decide +kernel
theorem dX4_lays_41 : decode cX4_lays 41 = .ok (.getfield 10, 3) := by decide +kernel
theorem dX4_lays_44 : decode cX4_lays 44 = .ok (.getfield 64, 3) := by decide +kernel
theorem dX4_lays_47 : decode cX4_lays 47 = .ok (.if_icmp .ge 50, 3) := by decide +kernel
theorem dX4_lays_50 : decode cX4_lays 50 = .ok (.aload_n 3, 1) := by decide +kernel
theorem dX4_lays_51 : decode cX4_lays 51 = .ok (.getfield 226, 3) := by decide +kernel
theorem dX4_lays_54 : decode cX4_lays 54 = .ok (.iload 5, 2) := by decide +kernel
theorem dX4_lays_56 : decode cX4_lays 56 = .ok (.laload, 1) := by decide +kernel
theorem dX4_lays_57 : decode cX4_lays 57 = .ok (.lstore 6, 2) := by decide +kernel
theorem dX4_lays_59 : decode cX4_lays 59 = .ok (.lload 6, 2) := by decide +kernel
theorem dX4_lays_61 : decode cX4_lays 61 = .ok (.lconst 1, 1) := by decide +kernel
theorem dX4_lays_62 : decode cX4_lays 62 = .ok (.lcmp, 1) := by decide +kernel
theorem dX4_lays_63 : decode cX4_lays 63 = .ok (.ifCond .lt 28, 3) := by decide +kernel
theorem dX4_lays_66 : decode cX4_lays 66 = .ok (.lload 6, 2) := by decide +kernel
theorem dX4_lays_68 : decode cX4_lays 68 = .ok (.ldc2_w 251, 3) := by decide +kernel
theorem dX4_lays_71 : decode cX4_lays 71 = .ok (.lcmp, 1) := by decide +kernel
theorem dX4_lays_72 : decode cX4_lays 72 = .ok (.ifCond .gt 19, 3) := by decide +kernel
theorem dX4_lays_75 : decode cX4_lays 75 = .ok (.aload_n 0, 1) := by decide +kernel
theorem dX4_lays_76 : decode cX4_lays 76 = .ok (.getfield 10, 3) := by decide +kernel
theorem dX4_lays_79 : decode cX4_lays 79 = .ok (.getfield 79, 3) := by decide +kernel
theorem dX4_lays_82 : decode cX4_lays 82 = .ok (.iload 5, 2) := by decide +kernel
theorem dX4_lays_84 : decode cX4_lays 84 = .ok (.lload 6, 2) := by decide +kernel
theorem dX4_lays_86 : decode cX4_lays 86 = .ok (.l2i, 1) := by decide +kernel
theorem dX4_lays_87 : decode cX4_lays 87 = .ok (.iastore, 1) := by decide +kernel
theorem dX4_lays_88 : decode cX4_lays 88 = .ok (.iinc 4 1, 3) := by decide +kernel
theorem dX4_lays_91 : decode cX4_lays 91 = .ok (.iinc 5 1, 3) := by decide +kernel
theorem dX4_lays_94 : decode cX4_lays 94 = .ok (.goto (-65), 3) := by decide +kernel
theorem dX4_lays_97 : decode cX4_lays 97 = .ok (.iload 4, 2) := by decide +kernel
theorem dX4_lays_99 : decode cX4_lays 99 = .ok (.ireturn, 1) := by decide +kernel
set_option maxRecDepth 20000 in
theorem ggX4_film_X4_sheetRefusal : GoodIn wsX4_film wsX4_sheetRefusal := goodIn_r _ [10, 2, 3, 11, 12, 13, 9, 14, 15, 16, 17, 18, 19, 20, 117, 118, 119, 120, 121, 122, 123, 124, 125, 126] rfl (by decide +kernel)
set_option maxRecDepth 20000 in
theorem gX4_film_X4_sheetRefusal : GoodIn wsX4_film (wsV RX4 222 RX4 yX4_sheetRefusal wsX4_sheetRefusal) := goodIn_app (goodIn_of _ (by decide +kernel)) ggX4_film_X4_sheetRefusal
set_option maxRecDepth 20000 in
theorem ggX4_film_X4_found : GoodIn wsX4_film wsX4_found := goodIn_r _ [24, 2, 25, 117, 118, 119, 120, 121, 122, 123] rfl (by decide +kernel)
set_option maxRecDepth 20000 in
theorem gX4_film_X4_found : GoodIn wsX4_film (wsV RX4 51 RX4 yX4_found wsX4_found) := goodIn_app (goodIn_of _ (by decide +kernel)) ggX4_film_X4_found
set_option maxRecDepth 20000 in
theorem ggX4_film_X3_has : GoodIn wsX4_film wsX3_has := goodIn_r _ [30, 31, 127, 128, 129, 130, 131, 132, 133, 134, 135, 136, 137, 138, 139, 140, 141] rfl (by decide +kernel)
set_option maxRecDepth 20000 in
theorem gX4_film_X3_has : GoodIn wsX4_film (wsV RX4 73 RX3 yX3_has wsX3_has) := goodIn_app (goodIn_of _ (by decide +kernel)) ggX4_film_X3_has
set_option maxRecDepth 20000 in
theorem ggX4_film_X4_tryOut : GoodIn wsX4_film wsX4_tryOut := goodIn_r _ [35, 36, 1, 37, 38, 39, 29, 40, 41, 42, 43, 44, 31, 45, 46, 47, 48, 49, 50, 51, 52, 53, 117, 118, 119, 120, 121, 122, 123, 127, 128, 129, 130, 131, 132, 133, 134, 135, 136, 137, 138, 139, 140, 141] rfl (by decide +kernel)
set_option maxRecDepth 20000 in
theorem gX4_film_X4_tryOut : GoodIn wsX4_film (wsV RX4 174 RX4 yX4_tryOut wsX4_tryOut) := goodIn_app (goodIn_of _ (by decide +kernel)) ggX4_film_X4_tryOut
set_option maxRecDepth 20000 in
theorem ggX4_film_X1_put : GoodIn wsX4_film wsX1_put := goodIn_r _ [57, 58, 59, 60, 61, 18, 62, 63, 64, 65, 66, 67, 20, 124, 125, 126] rfl (by decide +kernel)
set_option maxRecDepth 20000 in
theorem gX4_film_X1_put : GoodIn wsX4_film (wsV RX4 230 RX1 yX1_put wsX1_put) := goodIn_app (goodIn_of _ (by decide +kernel)) ggX4_film_X1_put
set_option maxRecDepth 20000 in
theorem ggX4_film_X3_goOn : GoodIn wsX4_film wsX3_goOn := goodIn_r _ [71, 72, 73, 74, 29, 75, 45, 31, 76, 77, 78, 79, 80, 53, 42, 81, 82, 83, 84, 44, 51, 41, 85, 86, 87, 88, 89, 90, 91, 92, 46, 49, 93, 94, 95, 47, 96, 27, 28, 30, 97, 98, 99, 100, 101, 102, 103, 104, 105, 106, 107, 108, 109, 110, 111, 112, 113, 114, 115, 116, 48, 127, 128, 129, 130, 131, 132, 133, 134, 135, 136, 137, 138, 139, 140, 141] rfl (by decide +kernel)
set_option maxRecDepth 20000 in
theorem gX4_film_X3_goOn : GoodIn wsX4_film (wsV RX4 138 RX3 yX3_goOn wsX3_goOn) := goodIn_app (goodIn_of _ (by decide +kernel)) ggX4_film_X3_goOn
theorem dX4_film_0 : decode cX4_film 0 = .ok (.aload_n 0, 1) := by decide +kernel
theorem dX4_film_1 : decode cX4_film 1 = .ok (.iload_n 1, 1) := by decide +kernel
theorem dX4_film_2 : decode cX4_film 2 = .ok (.invokevirtual 222, 3) := by decide +kernel
theorem dX4_film_5 : decode cX4_film 5 = .ok (.istore_n 3, 1) := by decide +kernel
theorem dX4_film_6 : decode cX4_film 6 = .ok (.iload_n 3, 1) := by decide +kernel
theorem dX4_film_7 : decode cX4_film 7 = .ok (.ifCond .eq 9, 3) := by decide +kernel
theorem dX4_film_10 : decode cX4_film 10 = .ok (.aload_n 0, 1) := by decide +kernel
theorem dX4_film_11 : decode cX4_film 11 = .ok (.iload_n 3, 1) := by decide +kernel
theorem dX4_film_12 : decode cX4_film 12 = .ok (.invokevirtual 51, 3) := by decide +kernel
theorem dX4_film_15 : decode cX4_film 15 = .ok (.ireturn, 1) := by decide +kernel
theorem dX4_film_16 : decode cX4_film 16 = .ok (.aload_n 0, 1) := by decide +kernel
theorem dX4_film_17 : decode cX4_film 17 = .ok (.getfield 10, 3) := by decide +kernel
theorem dX4_film_20 : decode cX4_film 20 = .ok (.iload_n 2, 1) := by decide +kernel
theorem dX4_film_21 : decode cX4_film 21 = .ok (.invokevirtual 73, 3) := by decide +kernel
theorem dX4_film_24 : decode cX4_film 24 = .ok (.ifCond .ne 10, 3) := by decide +kernel
theorem dX4_film_27 : decode cX4_film 27 = .ok (.aload_n 0, 1) := by decide +kernel
theorem dX4_film_28 : decode cX4_film 28 = .ok (.ldc 50, 2) := by decide +kernel
theorem dX4_film_30 : decode cX4_film 30 = .ok (.invokevirtual 51, 3) := by decide +kernel
theorem dX4_film_33 : decode cX4_film 33 = .ok (.ireturn, 1) := by decide +kernel
theorem dX4_film_34 : decode cX4_film 34 = .ok (.aload_n 0, 1) := by decide +kernel
theorem dX4_film_35 : decode cX4_film 35 = .ok (.getfield 31, 3) := by decide +kernel
theorem dX4_film_38 : decode cX4_film 38 = .ok (.iload_n 1, 1) := by decide +kernel
theorem dX4_film_39 : decode cX4_film 39 = .ok (.aaload, 1) := by decide +kernel
theorem dX4_film_40 : decode cX4_film 40 = .ok (.astore 4, 2) := by decide +kernel
theorem dX4_film_42 : decode cX4_film 42 = .ok (.aload_n 0, 1) := by decide +kernel
theorem dX4_film_43 : decode cX4_film 43 = .ok (.invokevirtual 174, 3) := by decide +kernel
theorem dX4_film_46 : decode cX4_film 46 = .ok (.astore 5, 2) := by decide +kernel
theorem dX4_film_48 : decode cX4_film 48 = .ok (.iconst 0, 1) := by decide +kernel
theorem dX4_film_49 : decode cX4_film 49 = .ok (.istore 6, 2) := by decide +kernel
theorem dX4_film_51 : decode cX4_film 51 = .ok (.iload 6, 2) := by decide +kernel
theorem dX4_film_53 : decode cX4_film 53 = .ok (.aload 4, 2) := by decide +kernel
theorem dX4_film_55 : decode cX4_film 55 = .ok (.getfield 250, 3) := by decide +kernel
theorem dX4_film_58 : decode cX4_film 58 = .ok (.if_icmp .ge 30, 3) := by decide +kernel
theorem dX4_film_61 : decode cX4_film 61 = .ok (.aload 4, 2) := by decide +kernel
theorem dX4_film_63 : decode cX4_film 63 = .ok (.iload 6, 2) := by decide +kernel
theorem dX4_film_65 : decode cX4_film 65 = .ok (.aload 5, 2) := by decide +kernel
theorem dX4_film_67 : decode cX4_film 67 = .ok (.getfield 91, 3) := by decide +kernel
theorem dX4_film_70 : decode cX4_film 70 = .ok (.iload_n 2, 1) := by decide +kernel
theorem dX4_film_71 : decode cX4_film 71 = .ok (.iaload, 1) := by decide +kernel
theorem dX4_film_72 : decode cX4_film 72 = .ok (.i2l, 1) := by decide +kernel
theorem dX4_film_73 : decode cX4_film 73 = .ok (.invokevirtual 230, 3) := by decide +kernel
theorem dX4_film_76 : decode cX4_film 76 = .ok (.aload 5, 2) := by decide +kernel
theorem dX4_film_78 : decode cX4_film 78 = .ok (.iconst 1, 1) := by decide +kernel
theorem dX4_film_79 : decode cX4_film 79 = .ok (.invokevirtual 138, 3) := by decide +kernel
theorem dX4_film_82 : decode cX4_film 82 = .ok (.iinc 6 1, 3) := by decide +kernel
theorem dX4_film_85 : decode cX4_film 85 = .ok (.goto (-34), 3) := by decide +kernel
theorem dX4_film_88 : decode cX4_film 88 = .ok (.aload 4, 2) := by decide +kernel
theorem dX4_film_90 : decode cX4_film 90 = .ok (.getfield 250, 3) := by decide +kernel
theorem dX4_film_93 : decode cX4_film 93 = .ok (.ireturn, 1) := by decide +kernel
set_option maxRecDepth 20000 in
theorem ggX4_read_X4_sheetRefusal : GoodIn wsX4_read wsX4_sheetRefusal := goodIn_r _ [9, 10, 1, 11, 12, 13, 8, 14, 15, 16, 17, 18, 19, 20, 109, 110, 111, 112, 113, 114, 115, 131, 132, 133] rfl (by decide +kernel)
set_option maxRecDepth 20000 in
theorem gX4_read_X4_sheetRefusal : GoodIn wsX4_read (wsV RX4 222 RX4 yX4_sheetRefusal wsX4_sheetRefusal) := goodIn_app (goodIn_of _ (by decide +kernel)) ggX4_read_X4_sheetRefusal
set_option maxRecDepth 20000 in
theorem ggX4_read_X4_found : GoodIn wsX4_read wsX4_found := goodIn_r _ [24, 10, 25, 109, 110, 111, 112, 113, 114, 115] rfl (by decide +kernel)
set_option maxRecDepth 20000 in
theorem gX4_read_X4_found : GoodIn wsX4_read (wsV RX4 51 RX4 yX4_found wsX4_found) := goodIn_app (goodIn_of _ (by decide +kernel)) ggX4_read_X4_found
set_option maxRecDepth 20000 in
theorem ggX4_read_X4_allFitting : GoodIn wsX4_read wsX4_allFitting := goodIn_r _ [29, 3, 30, 31, 32, 33, 34, 35, 8, 36, 37, 2, 38, 39, 40, 41, 42, 43, 44, 45, 46, 47, 48, 49, 50, 51, 52, 53, 54, 55, 56, 57, 58, 59, 60, 61, 62, 63, 64, 65, 66, 67, 68, 69, 70, 71, 72, 73, 74, 75, 76, 77, 78, 79, 80, 81, 82, 83, 84, 85, 86, 87, 88, 89, 90, 91, 92, 93, 94, 95, 96, 97, 98, 99, 100, 101, 102, 103, 104, 105, 106, 107, 108, 116, 117, 118, 119, 120, 121, 122, 123, 124, 125, 126, 127, 128, 129, 130, 131, 132, 133, 109, 110, 111, 112, 113, 114, 115] rfl (by decide +kernel)
set_option maxRecDepth 20000 in
theorem gX4_read_X4_allFitting : GoodIn wsX4_read (wsV RX4 253 RX4 yX4_allFitting wsX4_allFitting) := goodIn_app (goodIn_of _ (by decide +kernel)) ggX4_read_X4_allFitting
theorem dX4_read_0 : decode cX4_read 0 = .ok (.aload_n 0, 1) := by decide +kernel
theorem dX4_read_1 : decode cX4_read 1 = .ok (.iload_n 1, 1) := by decide +kernel
theorem dX4_read_2 : decode cX4_read 2 = .ok (.invokevirtual 222, 3) := by decide +kernel
theorem dX4_read_5 : decode cX4_read 5 = .ok (.istore_n 2, 1) := by decide +kernel
theorem dX4_read_6 : decode cX4_read 6 = .ok (.iload_n 2, 1) := by decide +kernel
theorem dX4_read_7 : decode cX4_read 7 = .ok (.ifCond .eq 9, 3) := by decide +kernel
theorem dX4_read_10 : decode cX4_read 10 = .ok (.aload_n 0, 1) := by decide +kernel
theorem dX4_read_11 : decode cX4_read 11 = .ok (.iload_n 2, 1) := by decide +kernel
theorem dX4_read_12 : decode cX4_read 12 = .ok (.invokevirtual 51, 3) := by decide +kernel
theorem dX4_read_15 : decode cX4_read 15 = .ok (.ireturn, 1) := by decide +kernel
theorem dX4_read_16 : decode cX4_read 16 = .ok (.aload_n 0, 1) := by decide +kernel
theorem dX4_read_17 : decode cX4_read 17 = .ok (.aload_n 0, 1) := by decide +kernel
theorem dX4_read_18 : decode cX4_read 18 = .ok (.getfield 31, 3) := by decide +kernel
theorem dX4_read_21 : decode cX4_read 21 = .ok (.iload_n 1, 1) := by decide +kernel
theorem dX4_read_22 : decode cX4_read 22 = .ok (.aaload, 1) := by decide +kernel
theorem dX4_read_23 : decode cX4_read 23 = .ok (.invokevirtual 253, 3) := by decide +kernel
theorem dX4_read_26 : decode cX4_read 26 = .ok (.istore_n 3, 1) := by decide +kernel
theorem dX4_read_27 : decode cX4_read 27 = .ok (.iconst 0, 1) := by decide +kernel
theorem dX4_read_28 : decode cX4_read 28 = .ok (.istore 4, 2) := by decide +kernel
theorem dX4_read_30 : decode cX4_read 30 = .ok (.iload 4, 2) := by decide +kernel
theorem dX4_read_32 : decode cX4_read 32 = .ok (.aload_n 0, 1) := by decide +kernel
theorem dX4_read_33 : decode cX4_read 33 = .ok (.getfield 10, 3) := by decide +kernel
theorem dX4_read_36 : decode cX4_read 36 = .ok (.getfield 64, 3) := by decide +kernel
theorem dX4_read_39 : decode cX4_read 39 = .ok (.if_icmp .ge 21, 3) := by decide +kernel
theorem dX4_read_42 : decode cX4_read 42 = .ok (.iload_n 3, 1) := by decide +kernel
theorem dX4_read_43 : decode cX4_read 43 = .ok (.iconst 1, 1) := by decide +kernel
theorem dX4_read_44 : decode cX4_read 44 = .ok (.iload 4, 2) := by decide +kernel
theorem dX4_read_46 : decode cX4_read 46 = .ok (.ishl, 1) := by decide +kernel
theorem dX4_read_47 : decode cX4_read 47 = .ok (.iand, 1) := by decide +kernel
theorem dX4_read_48 : decode cX4_read 48 = .ok (.ifCond .eq 6, 3) := by decide +kernel
theorem dX4_read_51 : decode cX4_read 51 = .ok (.iload 4, 2) := by decide +kernel
theorem dX4_read_53 : decode cX4_read 53 = .ok (.ireturn, 1) := by decide +kernel
theorem dX4_read_54 : decode cX4_read 54 = .ok (.iinc 4 1, 3) := by decide +kernel
theorem dX4_read_57 : decode cX4_read 57 = .ok (.goto (-27), 3) := by decide +kernel
theorem dX4_read_60 : decode cX4_read 60 = .ok (.aload_n 0, 1) := by decide +kernel
theorem dX4_read_61 : decode cX4_read 61 = .ok (.ldc 178, 2) := by decide +kernel
theorem dX4_read_63 : decode cX4_read 63 = .ok (.invokevirtual 51, 3) := by decide +kernel
theorem dX4_read_66 : decode cX4_read 66 = .ok (.ireturn, 1) := by decide +kernel
set_option maxRecDepth 20000 in
theorem ggX4_image_X3_takeOver : GoodIn wsX4_image wsX3_takeOver := goodIn_r _ [8, 9, 10, 11, 12, 13, 14, 15, 16, 17, 18, 19, 20, 21, 22, 30, 31, 32, 33, 34, 35, 36, 37, 38, 39, 40, 41, 42, 43, 44] rfl (by decide +kernel)
set_option maxRecDepth 20000 in
theorem gX4_image_X3_takeOver : GoodIn wsX4_image (wsV RX4 208 RX3 yX3_takeOver wsX3_takeOver) := goodIn_app (goodIn_of _ (by decide +kernel)) ggX4_image_X3_takeOver
theorem dX4_image_0 : decode cX4_image 0 = .ok (.aload_n 0, 1) := by decide +kernel
theorem dX4_image_1 : decode cX4_image 1 = .ok (.getfield 19, 3) := by decide +kernel
theorem dX4_image_4 : decode cX4_image 4 = .ok (.aload_n 0, 1) := by decide +kernel
theorem dX4_image_5 : decode cX4_image 5 = .ok (.getfield 10, 3) := by decide +kernel
theorem dX4_image_8 : decode cX4_image 8 = .ok (.invokevirtual 208, 3) := by decide +kernel
theorem dX4_image_11 : decode cX4_image 11 = .ok (.aload_n 0, 1) := by decide +kernel
theorem dX4_image_12 : decode cX4_image 12 = .ok (.iconst 1, 1) := by decide +kernel
theorem dX4_image_13 : decode cX4_image 13 = .ok (.putfield 257, 3) := by decide +kernel
theorem dX4_image_16 : decode cX4_image 16 = .ok (.iconst 1, 1) := by decide +kernel
theorem dX4_image_17 : decode cX4_image 17 = .ok (.ireturn, 1) := by decide +kernel
set_option maxRecDepth 20000 in
theorem ggX4_undo_X4_found : GoodIn wsX4_undo wsX4_found := goodIn_r _ [10, 11, 12, 32, 33, 34, 35, 36, 37, 38] rfl (by decide +kernel)
set_option maxRecDepth 20000 in
theorem gX4_undo_X4_found : GoodIn wsX4_undo (wsV RX4 51 RX4 yX4_found wsX4_found) := goodIn_app (goodIn_of _ (by decide +kernel)) ggX4_undo_X4_found
set_option maxRecDepth 20000 in
theorem ggX4_undo_X3_takeOver : GoodIn wsX4_undo wsX3_takeOver := goodIn_r _ [17, 18, 19, 20, 21, 22, 23, 24, 25, 26, 27, 28, 29, 30, 31, 39, 40, 41, 42, 43, 44, 45, 46, 47, 48, 49, 50, 51, 52, 53] rfl (by decide +kernel)
set_option maxRecDepth 20000 in
theorem gX4_undo_X3_takeOver : GoodIn wsX4_undo (wsV RX4 208 RX3 yX3_takeOver wsX3_takeOver) := goodIn_app (goodIn_of _ (by decide +kernel)) ggX4_undo_X3_takeOver
theorem dX4_undo_0 : decode cX4_undo 0 = .ok (.aload_n 0, 1) := by decide +kernel
theorem dX4_undo_1 : decode cX4_undo 1 = .ok (.getfield 257, 3) := by decide +kernel
theorem dX4_undo_4 : decode cX4_undo 4 = .ok (.ifCond .ne 10, 3) := by decide +kernel
theorem dX4_undo_7 : decode cX4_undo 7 = .ok (.aload_n 0, 1) := by decide +kernel
theorem dX4_undo_8 : decode cX4_undo 8 = .ok (.ldc 178, 2) := by decide +kernel
theorem dX4_undo_10 : decode cX4_undo 10 = .ok (.invokevirtual 51, 3) := by decide +kernel
theorem dX4_undo_13 : decode cX4_undo 13 = .ok (.ireturn, 1) := by decide +kernel
theorem dX4_undo_14 : decode cX4_undo 14 = .ok (.aload_n 0, 1) := by decide +kernel
theorem dX4_undo_15 : decode cX4_undo 15 = .ok (.getfield 10, 3) := by decide +kernel
theorem dX4_undo_18 : decode cX4_undo 18 = .ok (.aload_n 0, 1) := by decide +kernel
theorem dX4_undo_19 : decode cX4_undo 19 = .ok (.getfield 19, 3) := by decide +kernel
theorem dX4_undo_22 : decode cX4_undo 22 = .ok (.invokevirtual 208, 3) := by decide +kernel
theorem dX4_undo_25 : decode cX4_undo 25 = .ok (.aload_n 0, 1) := by decide +kernel
theorem dX4_undo_26 : decode cX4_undo 26 = .ok (.getfield 10, 3) := by decide +kernel
theorem dX4_undo_29 : decode cX4_undo 29 = .ok (.getfield 64, 3) := by decide +kernel
theorem dX4_undo_32 : decode cX4_undo 32 = .ok (.ireturn, 1) := by decide +kernel
theorem dX4_tear_0 : decode cX4_tear 0 = .ok (.aload_n 0, 1) := by decide +kernel
theorem dX4_tear_1 : decode cX4_tear 1 = .ok (.getfield 257, 3) := by decide +kernel
theorem dX4_tear_4 : decode cX4_tear 4 = .ok (.ifCond .eq 7, 3) := by decide +kernel
theorem dX4_tear_7 : decode cX4_tear 7 = .ok (.iconst 1, 1) := by decide +kernel
theorem dX4_tear_8 : decode cX4_tear 8 = .ok (.goto 4, 3) := by decide +kernel
theorem dX4_tear_11 : decode cX4_tear 11 = .ok (.iconst 0, 1) := by decide +kernel
theorem dX4_tear_12 : decode cX4_tear 12 = .ok (.istore_n 1, 1) := by decide +kernel
theorem dX4_tear_13 : decode cX4_tear 13 = .ok (.aload_n 0, 1) := by decide +kernel
theorem dX4_tear_14 : decode cX4_tear 14 = .ok (.iconst 0, 1) := by decide +kernel
theorem dX4_tear_15 : decode cX4_tear 15 = .ok (.putfield 257, 3) := by decide +kernel
theorem dX4_tear_18 : decode cX4_tear 18 = .ok (.iload_n 1, 1) := by decide +kernel
theorem dX4_tear_19 : decode cX4_tear 19 = .ok (.ireturn, 1) := by decide +kernel
set_option maxRecDepth 20000 in
theorem ggX4_count_X4_sum : GoodIn wsX4_count wsX4_sum := goodIn_r _ [13, 1, 2, 19, 20, 21, 22, 23, 24, 25, 26, 27, 28, 29, 30, 31, 32, 33, 34, 35, 36, 37, 38, 39, 40] rfl (by decide +kernel)
set_option maxRecDepth 20000 in
theorem gX4_count_X4_sum : GoodIn wsX4_count (wsV RX4 261 RX4 yX4_sum wsX4_sum) := goodIn_app (goodIn_of _ (by decide +kernel)) ggX4_count_X4_sum
set_option maxRecDepth 20000 in
theorem ggX4_count_X4_found : GoodIn wsX4_count wsX4_found := goodIn_r _ [17, 8, 18, 19, 20, 21, 22, 23, 24, 25] rfl (by decide +kernel)
set_option maxRecDepth 20000 in
theorem gX4_count_X4_found : GoodIn wsX4_count (wsV RX4 51 RX4 yX4_found wsX4_found) := goodIn_app (goodIn_of _ (by decide +kernel)) ggX4_count_X4_found
theorem dX4_count_0 : decode cX4_count 0 = .ok (.iload_n 1, 1) := by decide +kernel
theorem dX4_count_1 : decode cX4_count 1 = .ok (.tableswitch 87 0 4 #[35, 43, 51, 63, 75], 35) := by decide +kernel
theorem dX4_count_36 : decode cX4_count 36 = .ok (.aload_n 0, 1) := by decide +kernel
theorem dX4_count_37 : decode cX4_count 37 = .ok (.getfield 10, 3) := by decide +kernel
theorem dX4_count_40 : decode cX4_count 40 = .ok (.getfield 64, 3) := by decide +kernel
theorem dX4_count_43 : decode cX4_count 43 = .ok (.ireturn, 1) := by decide +kernel
theorem dX4_count_44 : decode cX4_count 44 = .ok (.aload_n 0, 1) := by decide +kernel
theorem dX4_count_45 : decode cX4_count 45 = .ok (.getfield 25, 3) := by decide +kernel
theorem dX4_count_48 : decode cX4_count 48 = .ok (.getfield 196, 3) := by decide +kernel
theorem dX4_count_51 : decode cX4_count 51 = .ok (.ireturn, 1) := by decide +kernel
theorem dX4_count_52 : decode cX4_count 52 = .ok (.aload_n 0, 1) := by decide +kernel
theorem dX4_count_53 : decode cX4_count 53 = .ok (.aload_n 0, 1) := by decide +kernel
theorem dX4_count_54 : decode cX4_count 54 = .ok (.getfield 10, 3) := by decide +kernel
theorem dX4_count_57 : decode cX4_count 57 = .ok (.getfield 91, 3) := by decide +kernel
theorem dX4_count_60 : decode cX4_count 60 = .ok (.invokevirtual 261, 3) := by decide +kernel
theorem dX4_count_63 : decode cX4_count 63 = .ok (.ireturn, 1) := by decide +kernel
theorem dX4_count_64 : decode cX4_count 64 = .ok (.aload_n 0, 1) := by decide +kernel
theorem dX4_count_65 : decode cX4_count 65 = .ok (.aload_n 0, 1) := by decide +kernel
theorem dX4_count_66 : decode cX4_count 66 = .ok (.getfield 10, 3) := by decide +kernel
theorem dX4_count_69 : decode cX4_count 69 = .ok (.getfield 82, 3) := by decide +kernel
theorem dX4_count_72 : decode cX4_count 72 = .ok (.invokevirtual 261, 3) := by decide +kernel
theorem dX4_count_75 : decode cX4_count 75 = .ok (.ireturn, 1) := by decide +kernel
theorem dX4_count_76 : decode cX4_count 76 = .ok (.aload_n 0, 1) := by decide +kernel
theorem dX4_count_77 : decode cX4_count 77 = .ok (.aload_n 0, 1) := by decide +kernel
theorem dX4_count_78 : decode cX4_count 78 = .ok (.getfield 10, 3) := by decide +kernel
theorem dX4_count_81 : decode cX4_count 81 = .ok (.getfield 94, 3) := by decide +kernel
theorem dX4_count_84 : decode cX4_count 84 = .ok (.invokevirtual 261, 3) := by decide +kernel
theorem dX4_count_87 : decode cX4_count 87 = .ok (.ireturn, 1) := by decide +kernel
theorem dX4_count_88 : decode cX4_count 88 = .ok (.aload_n 0, 1) := by decide +kernel
theorem dX4_count_89 : decode cX4_count 89 = .ok (.ldc 50, 2) := by decide +kernel
theorem dX4_count_91 : decode cX4_count 91 = .ok (.invokevirtual 51, 3) := by decide +kernel
theorem dX4_count_94 : decode cX4_count 94 = .ok (.ireturn, 1) := by decide +kernel
set_option maxRecDepth 20000 in
theorem ggX4_status_X4_found : GoodIn wsX4_status wsX4_found := goodIn_r _ [7, 1, 2, 8, 9, 10, 11, 12, 13, 14] rfl (by decide +kernel)
set_option maxRecDepth 20000 in
theorem gX4_status_X4_found : GoodIn wsX4_status (wsV RX4 51 RX4 yX4_found wsX4_found) := goodIn_app (goodIn_of _ (by decide +kernel)) ggX4_status_X4_found
theorem dX4_status_0 : decode cX4_status 0 = .ok (.iload_n 1, 1) := by decide +kernel
theorem dX4_status_1 : decode cX4_status 1 = .ok (.iconst (-1), 1) := by decide +kernel
theorem dX4_status_2 : decode cX4_status 2 = .ok (.if_icmp .lt 9, 3) := by decide +kernel
theorem dX4_status_5 : decode cX4_status 5 = .ok (.iload_n 1, 1) := by decide +kernel
theorem dX4_status_6 : decode cX4_status 6 = .ok (.bipush 7, 2) := by decide +kernel
theorem dX4_status_8 : decode cX4_status 8 = .ok (.if_icmp .lt 10, 3) := by decide +kernel
theorem dX4_status_11 : decode cX4_status 11 = .ok (.aload_n 0, 1) := by decide +kernel
theorem dX4_status_12 : decode cX4_status 12 = .ok (.ldc 50, 2) := by decide +kernel
theorem dX4_status_14 : decode cX4_status 14 = .ok (.invokevirtual 51, 3) := by decide +kernel
theorem dX4_status_17 : decode cX4_status 17 = .ok (.ireturn, 1) := by decide +kernel
theorem dX4_status_18 : decode cX4_status 18 = .ok (.iload_n 1, 1) := by decide +kernel
theorem dX4_status_19 : decode cX4_status 19 = .ok (.ifCond .lt 10, 3) := by decide +kernel
theorem dX4_status_22 : decode cX4_status 22 = .ok (.aload_n 0, 1) := by decide +kernel
theorem dX4_status_23 : decode cX4_status 23 = .ok (.getfield 35, 3) := by decide +kernel
theorem dX4_status_26 : decode cX4_status 26 = .ok (.iload_n 1, 1) := by decide +kernel
theorem dX4_status_27 : decode cX4_status 27 = .ok (.iaload, 1) := by decide +kernel
theorem dX4_status_28 : decode cX4_status 28 = .ok (.ireturn, 1) := by decide +kernel
theorem dX4_status_29 : decode cX4_status 29 = .ok (.iconst 0, 1) := by decide +kernel
theorem dX4_status_30 : decode cX4_status 30 = .ok (.istore_n 2, 1) := by decide +kernel
theorem dX4_status_31 : decode cX4_status 31 = .ok (.iconst 0, 1) := by decide +kernel
theorem dX4_status_32 : decode cX4_status 32 = .ok (.istore_n 3, 1) := by decide +kernel
theorem dX4_status_33 : decode cX4_status 33 = .ok (.iload_n 3, 1) := by decide +kernel
theorem dX4_status_34 : decode cX4_status 34 = .ok (.bipush 7, 2) := by decide +kernel
theorem dX4_status_36 : decode cX4_status 36 = .ok (.if_icmp .ge 18, 3) := by decide +kernel
theorem dX4_status_39 : decode cX4_status 39 = .ok (.iload_n 2, 1) := by decide +kernel
theorem dX4_status_40 : decode cX4_status 40 = .ok (.aload_n 0, 1) := by decide +kernel
theorem dX4_status_41 : decode cX4_status 41 = .ok (.getfield 35, 3) := by decide +kernel
theorem dX4_status_44 : decode cX4_status 44 = .ok (.iload_n 3, 1) := by decide +kernel
theorem dX4_status_45 : decode cX4_status 45 = .ok (.iaload, 1) := by decide +kernel
theorem dX4_status_46 : decode cX4_status 46 = .ok (.iadd, 1) := by decide +kernel
theorem dX4_status_47 : decode cX4_status 47 = .ok (.istore_n 2, 1) := by decide +kernel
theorem dX4_status_48 : decode cX4_status 48 = .ok (.iinc 3 1, 3) := by decide +kernel
theorem dX4_status_51 : decode cX4_status 51 = .ok (.goto (-18), 3) := by decide +kernel
theorem dX4_status_54 : decode cX4_status 54 = .ok (.iload_n 2, 1) := by decide +kernel
theorem dX4_status_55 : decode cX4_status 55 = .ok (.ireturn, 1) := by decide +kernel
theorem dX4_found_0 : decode cX4_found 0 = .ok (.ldc 50, 2) := by decide +kernel
theorem dX4_found_2 : decode cX4_found 2 = .ok (.iload_n 1, 1) := by decide +kernel
theorem dX4_found_3 : decode cX4_found 3 = .ok (.isub, 1) := by decide +kernel
theorem dX4_found_4 : decode cX4_found 4 = .ok (.istore_n 2, 1) := by decide +kernel
theorem dX4_found_5 : decode cX4_found 5 = .ok (.iload_n 2, 1) := by decide +kernel
theorem dX4_found_6 : decode cX4_found 6 = .ok (.ifCond .lt 19, 3) := by decide +kernel
theorem dX4_found_9 : decode cX4_found 9 = .ok (.iload_n 2, 1) := by decide +kernel
theorem dX4_found_10 : decode cX4_found 10 = .ok (.bipush 7, 2) := by decide +kernel
theorem dX4_found_12 : decode cX4_found 12 = .ok (.if_icmp .ge 13, 3) := by decide +kernel
theorem dX4_found_15 : decode cX4_found 15 = .ok (.aload_n 0, 1) := by decide +kernel
theorem dX4_found_16 : decode cX4_found 16 = .ok (.getfield 35, 3) := by decide +kernel
theorem dX4_found_19 : decode cX4_found 19 = .ok (.iload_n 2, 1) := by decide +kernel
theorem dX4_found_20 : decode cX4_found 20 = .ok (.dup2, 1) := by decide +kernel
theorem dX4_found_21 : decode cX4_found 21 = .ok (.iaload, 1) := by decide +kernel
theorem dX4_found_22 : decode cX4_found 22 = .ok (.iconst 1, 1) := by decide +kernel
theorem dX4_found_23 : decode cX4_found 23 = .ok (.iadd, 1) := by decide +kernel
theorem dX4_found_24 : decode cX4_found 24 = .ok (.iastore, 1) := by decide +kernel
theorem dX4_found_25 : decode cX4_found 25 = .ok (.iload_n 1, 1) := by decide +kernel
theorem dX4_found_26 : decode cX4_found 26 = .ok (.ireturn, 1) := by decide +kernel
set_option maxRecDepth 20000 in
theorem ggX4_runnerOrNone_X4_found : GoodIn wsX4_runnerOrNone wsX4_found := goodIn_r _ [6, 7, 8, 9, 10, 11, 12, 13, 14, 15] rfl (by decide +kernel)
set_option maxRecDepth 20000 in
theorem gX4_runnerOrNone_X4_found : GoodIn wsX4_runnerOrNone (wsV RX4 51 RX4 yX4_found wsX4_found) := goodIn_app (goodIn_of _ (by decide +kernel)) ggX4_runnerOrNone_X4_found
theorem dX4_runnerOrNone_0 : decode cX4_runnerOrNone 0 = .ok (.iload_n 1, 1) := by decide +kernel
theorem dX4_runnerOrNone_1 : decode cX4_runnerOrNone 1 = .ok (.iconst (-1), 1) := by decide +kernel
theorem dX4_runnerOrNone_2 : decode cX4_runnerOrNone 2 = .ok (.if_icmp .ne 12, 3) := by decide +kernel
theorem dX4_runnerOrNone_5 : decode cX4_runnerOrNone 5 = .ok (.aload_n 0, 1) := by decide +kernel
theorem dX4_runnerOrNone_6 : decode cX4_runnerOrNone 6 = .ok (.ldc 178, 2) := by decide +kernel
theorem dX4_runnerOrNone_8 : decode cX4_runnerOrNone 8 = .ok (.invokevirtual 51, 3) := by decide +kernel
theorem dX4_runnerOrNone_11 : decode cX4_runnerOrNone 11 = .ok (.goto 4, 3) := by decide +kernel
theorem dX4_runnerOrNone_14 : decode cX4_runnerOrNone 14 = .ok (.iload_n 1, 1) := by decide +kernel
theorem dX4_runnerOrNone_15 : decode cX4_runnerOrNone 15 = .ok (.ireturn, 1) := by decide +kernel
set_option maxRecDepth 20000 in
theorem ggX4_letLength_X4_found : GoodIn wsX4_letLength wsX4_found := goodIn_r _ [10, 1, 11, 12, 13, 14, 15, 16, 17, 18] rfl (by decide +kernel)
set_option maxRecDepth 20000 in
theorem gX4_letLength_X4_found : GoodIn wsX4_letLength (wsV RX4 51 RX4 yX4_found wsX4_found) := goodIn_app (goodIn_of _ (by decide +kernel)) ggX4_letLength_X4_found
theorem dX4_letLength_0 : decode cX4_letLength 0 = .ok (.iload_n 1, 1) := by decide +kernel
theorem dX4_letLength_1 : decode cX4_letLength 1 = .ok (.bipush 10, 2) := by decide +kernel
theorem dX4_letLength_3 : decode cX4_letLength 3 = .ok (.if_icmp .lt 10, 3) := by decide +kernel
theorem dX4_letLength_6 : decode cX4_letLength 6 = .ok (.iload_n 1, 1) := by decide +kernel
theorem dX4_letLength_7 : decode cX4_letLength 7 = .ok (.sipush 9999, 3) := by decide +kernel
theorem dX4_letLength_10 : decode cX4_letLength 10 = .ok (.if_icmp .le 10, 3) := by decide +kernel
theorem dX4_letLength_13 : decode cX4_letLength 13 = .ok (.aload_n 0, 1) := by decide +kernel
theorem dX4_letLength_14 : decode cX4_letLength 14 = .ok (.ldc 50, 2) := by decide +kernel
theorem dX4_letLength_16 : decode cX4_letLength 16 = .ok (.invokevirtual 51, 3) := by decide +kernel
theorem dX4_letLength_19 : decode cX4_letLength 19 = .ok (.ireturn, 1) := by decide +kernel
theorem dX4_letLength_20 : decode cX4_letLength 20 = .ok (.aload_n 0, 1) := by decide +kernel
theorem dX4_letLength_21 : decode cX4_letLength 21 = .ok (.getfield 10, 3) := by decide +kernel
theorem dX4_letLength_24 : decode cX4_letLength 24 = .ok (.getfield 64, 3) := by decide +kernel
theorem dX4_letLength_27 : decode cX4_letLength 27 = .ok (.ifCond .le 10, 3) := by decide +kernel
theorem dX4_letLength_30 : decode cX4_letLength 30 = .ok (.aload_n 0, 1) := by decide +kernel
theorem dX4_letLength_31 : decode cX4_letLength 31 = .ok (.ldc 123, 2) := by decide +kernel
theorem dX4_letLength_33 : decode cX4_letLength 33 = .ok (.invokevirtual 51, 3) := by decide +kernel
theorem dX4_letLength_36 : decode cX4_letLength 36 = .ok (.ireturn, 1) := by decide +kernel
theorem dX4_letLength_37 : decode cX4_letLength 37 = .ok (.aload_n 0, 1) := by decide +kernel
theorem dX4_letLength_38 : decode cX4_letLength 38 = .ok (.getfield 10, 3) := by decide +kernel
theorem dX4_letLength_41 : decode cX4_letLength 41 = .ok (.getfield 145, 3) := by decide +kernel
theorem dX4_letLength_44 : decode cX4_letLength 44 = .ok (.istore_n 2, 1) := by decide +kernel
theorem dX4_letLength_45 : decode cX4_letLength 45 = .ok (.aload_n 0, 1) := by decide +kernel
theorem dX4_letLength_46 : decode cX4_letLength 46 = .ok (.getfield 10, 3) := by decide +kernel
theorem dX4_letLength_49 : decode cX4_letLength 49 = .ok (.iload_n 1, 1) := by decide +kernel
theorem dX4_letLength_50 : decode cX4_letLength 50 = .ok (.putfield 145, 3) := by decide +kernel
theorem dX4_letLength_53 : decode cX4_letLength 53 = .ok (.iload_n 2, 1) := by decide +kernel
theorem dX4_letLength_54 : decode cX4_letLength 54 = .ok (.ireturn, 1) := by decide +kernel
set_option maxRecDepth 20000 in
theorem ggX4_letLeast_X4_found : GoodIn wsX4_letLeast wsX4_found := goodIn_r _ [8, 1, 9, 10, 11, 12, 13, 14, 15, 16] rfl (by decide +kernel)
set_option maxRecDepth 20000 in
theorem gX4_letLeast_X4_found : GoodIn wsX4_letLeast (wsV RX4 51 RX4 yX4_found wsX4_found) := goodIn_app (goodIn_of _ (by decide +kernel)) ggX4_letLeast_X4_found
theorem dX4_letLeast_0 : decode cX4_letLeast 0 = .ok (.iload_n 1, 1) := by decide +kernel
theorem dX4_letLeast_1 : decode cX4_letLeast 1 = .ok (.ifCond .lt 8, 3) := by decide +kernel
theorem dX4_letLeast_4 : decode cX4_letLeast 4 = .ok (.iload_n 1, 1) := by decide +kernel
theorem dX4_letLeast_5 : decode cX4_letLeast 5 = .ok (.iconst 5, 1) := by decide +kernel
theorem dX4_letLeast_6 : decode cX4_letLeast 6 = .ok (.if_icmp .le 10, 3) := by decide +kernel
theorem dX4_letLeast_9 : decode cX4_letLeast 9 = .ok (.aload_n 0, 1) := by decide +kernel
theorem dX4_letLeast_10 : decode cX4_letLeast 10 = .ok (.ldc 50, 2) := by decide +kernel
theorem dX4_letLeast_12 : decode cX4_letLeast 12 = .ok (.invokevirtual 51, 3) := by decide +kernel
theorem dX4_letLeast_15 : decode cX4_letLeast 15 = .ok (.ireturn, 1) := by decide +kernel
theorem dX4_letLeast_16 : decode cX4_letLeast 16 = .ok (.aload_n 0, 1) := by decide +kernel
theorem dX4_letLeast_17 : decode cX4_letLeast 17 = .ok (.getfield 10, 3) := by decide +kernel
theorem dX4_letLeast_20 : decode cX4_letLeast 20 = .ok (.getfield 148, 3) := by decide +kernel
theorem dX4_letLeast_23 : decode cX4_letLeast 23 = .ok (.istore_n 2, 1) := by decide +kernel
theorem dX4_letLeast_24 : decode cX4_letLeast 24 = .ok (.aload_n 0, 1) := by decide +kernel
theorem dX4_letLeast_25 : decode cX4_letLeast 25 = .ok (.getfield 10, 3) := by decide +kernel
theorem dX4_letLeast_28 : decode cX4_letLeast 28 = .ok (.iload_n 1, 1) := by decide +kernel
theorem dX4_letLeast_29 : decode cX4_letLeast 29 = .ok (.putfield 148, 3) := by decide +kernel
theorem dX4_letLeast_32 : decode cX4_letLeast 32 = .ok (.iload_n 2, 1) := by decide +kernel
theorem dX4_letLeast_33 : decode cX4_letLeast 33 = .ok (.ireturn, 1) := by decide +kernel
set_option maxRecDepth 20000 in
theorem ggX4_letLaw_X4_isLaw : GoodIn wsX4_letLaw wsX4_isLaw := goodIn_r _ [7] rfl (by decide +kernel)
set_option maxRecDepth 20000 in
theorem gX4_letLaw_X4_isLaw : GoodIn wsX4_letLaw (va_wsS RX4 179 yX4_isLaw wsX4_isLaw) := goodIn_app (goodIn_of _ (by decide +kernel)) ggX4_letLaw_X4_isLaw
set_option maxRecDepth 20000 in
theorem ggX4_letLaw_X4_found : GoodIn wsX4_letLaw wsX4_found := goodIn_r _ [11, 1, 12, 13, 14, 15, 16, 17, 18, 19] rfl (by decide +kernel)
set_option maxRecDepth 20000 in
theorem gX4_letLaw_X4_found : GoodIn wsX4_letLaw (wsV RX4 51 RX4 yX4_found wsX4_found) := goodIn_app (goodIn_of _ (by decide +kernel)) ggX4_letLaw_X4_found
theorem dX4_letLaw_0 : decode cX4_letLaw 0 = .ok (.iload_n 1, 1) := by decide +kernel
theorem dX4_letLaw_1 : decode cX4_letLaw 1 = .ok (.invokestatic 179, 3) := by decide +kernel
theorem dX4_letLaw_4 : decode cX4_letLaw 4 = .ok (.ifCond .ne 10, 3) := by decide +kernel
theorem dX4_letLaw_7 : decode cX4_letLaw 7 = .ok (.aload_n 0, 1) := by decide +kernel
theorem dX4_letLaw_8 : decode cX4_letLaw 8 = .ok (.ldc 50, 2) := by decide +kernel
theorem dX4_letLaw_10 : decode cX4_letLaw 10 = .ok (.invokevirtual 51, 3) := by decide +kernel
theorem dX4_letLaw_13 : decode cX4_letLaw 13 = .ok (.ireturn, 1) := by decide +kernel
theorem dX4_letLaw_14 : decode cX4_letLaw 14 = .ok (.aload_n 0, 1) := by decide +kernel
theorem dX4_letLaw_15 : decode cX4_letLaw 15 = .ok (.getfield 10, 3) := by decide +kernel
theorem dX4_letLaw_18 : decode cX4_letLaw 18 = .ok (.getfield 151, 3) := by decide +kernel
theorem dX4_letLaw_21 : decode cX4_letLaw 21 = .ok (.istore_n 2, 1) := by decide +kernel
theorem dX4_letLaw_22 : decode cX4_letLaw 22 = .ok (.aload_n 0, 1) := by decide +kernel
theorem dX4_letLaw_23 : decode cX4_letLaw 23 = .ok (.getfield 10, 3) := by decide +kernel
theorem dX4_letLaw_26 : decode cX4_letLaw 26 = .ok (.iload_n 1, 1) := by decide +kernel
theorem dX4_letLaw_27 : decode cX4_letLaw 27 = .ok (.putfield 151, 3) := by decide +kernel
theorem dX4_letLaw_30 : decode cX4_letLaw 30 = .ok (.iload_n 2, 1) := by decide +kernel
theorem dX4_letLaw_31 : decode cX4_letLaw 31 = .ok (.ireturn, 1) := by decide +kernel
set_option maxRecDepth 20000 in
theorem ggX4_isFriendFor_X3_has : GoodIn wsX4_isFriendFor wsX3_has := goodIn_r _ [6, 7, 15, 16, 17, 18, 19, 20, 21, 22, 23, 24, 25, 26, 27, 28, 29] rfl (by decide +kernel)
set_option maxRecDepth 20000 in
theorem gX4_isFriendFor_X3_has : GoodIn wsX4_isFriendFor (wsV RX4 73 RX3 yX3_has wsX3_has) := goodIn_app (goodIn_of _ (by decide +kernel)) ggX4_isFriendFor_X3_has
theorem dX4_isFriendFor_0 : decode cX4_isFriendFor 0 = .ok (.iload_n 2, 1) := by decide +kernel
theorem dX4_isFriendFor_1 : decode cX4_isFriendFor 1 = .ok (.iconst (-1), 1) := by decide +kernel
theorem dX4_isFriendFor_2 : decode cX4_isFriendFor 2 = .ok (.if_icmp .eq 19, 3) := by decide +kernel
theorem dX4_isFriendFor_5 : decode cX4_isFriendFor 5 = .ok (.aload_n 0, 1) := by decide +kernel
theorem dX4_isFriendFor_6 : decode cX4_isFriendFor 6 = .ok (.getfield 10, 3) := by decide +kernel
theorem dX4_isFriendFor_9 : decode cX4_isFriendFor 9 = .ok (.iload_n 2, 1) := by decide +kernel
theorem dX4_isFriendFor_10 : decode cX4_isFriendFor 10 = .ok (.invokevirtual 73, 3) := by decide +kernel
theorem dX4_isFriendFor_13 : decode cX4_isFriendFor 13 = .ok (.ifCond .eq 12, 3) := by decide +kernel
theorem dX4_isFriendFor_16 : decode cX4_isFriendFor 16 = .ok (.iload_n 2, 1) := by decide +kernel
theorem dX4_isFriendFor_17 : decode cX4_isFriendFor 17 = .ok (.iload_n 1, 1) := by decide +kernel
theorem dX4_isFriendFor_18 : decode cX4_isFriendFor 18 = .ok (.if_icmp .eq 7, 3) := by decide +kernel
theorem dX4_isFriendFor_21 : decode cX4_isFriendFor 21 = .ok (.iconst 1, 1) := by decide +kernel
theorem dX4_isFriendFor_22 : decode cX4_isFriendFor 22 = .ok (.goto 4, 3) := by decide +kernel
theorem dX4_isFriendFor_25 : decode cX4_isFriendFor 25 = .ok (.iconst 0, 1) := by decide +kernel
theorem dX4_isFriendFor_26 : decode cX4_isFriendFor 26 = .ok (.ireturn, 1) := by decide +kernel
set_option maxRecDepth 20000 in
theorem ggX4_tryOut_X3_takeOver : GoodIn wsX4_tryOut wsX3_takeOver := goodIn_r _ [7, 8, 9, 10, 11, 12, 13, 14, 15, 16, 17, 18, 19, 20, 21, 29, 30, 31, 32, 33, 34, 35, 36, 37, 38, 39, 40, 41, 42, 43] rfl (by decide +kernel)
set_option maxRecDepth 20000 in
theorem gX4_tryOut_X3_takeOver : GoodIn wsX4_tryOut (wsV RX4 208 RX3 yX3_takeOver wsX3_takeOver) := goodIn_app (goodIn_of _ (by decide +kernel)) ggX4_tryOut_X3_takeOver
theorem dX4_tryOut_0 : decode cX4_tryOut 0 = .ok (.aload_n 0, 1) := by decide +kernel
theorem dX4_tryOut_1 : decode cX4_tryOut 1 = .ok (.getfield 16, 3) := by decide +kernel
theorem dX4_tryOut_4 : decode cX4_tryOut 4 = .ok (.aload_n 0, 1) := by decide +kernel
theorem dX4_tryOut_5 : decode cX4_tryOut 5 = .ok (.getfield 10, 3) := by decide +kernel
theorem dX4_tryOut_8 : decode cX4_tryOut 8 = .ok (.invokevirtual 208, 3) := by decide +kernel
theorem dX4_tryOut_11 : decode cX4_tryOut 11 = .ok (.aload_n 0, 1) := by decide +kernel
theorem dX4_tryOut_12 : decode cX4_tryOut 12 = .ok (.getfield 16, 3) := by decide +kernel
theorem dX4_tryOut_15 : decode cX4_tryOut 15 = .ok (.areturn, 1) := by decide +kernel
theorem dX4_most_0 : decode cX4_most 0 = .ok (.iconst (-1), 1) := by decide +kernel
theorem dX4_most_1 : decode cX4_most 1 = .ok (.istore_n 2, 1) := by decide +kernel
theorem dX4_most_2 : decode cX4_most 2 = .ok (.iconst 0, 1) := by decide +kernel
theorem dX4_most_3 : decode cX4_most 3 = .ok (.istore_n 3, 1) := by decide +kernel
theorem dX4_most_4 : decode cX4_most 4 = .ok (.iload_n 3, 1) := by decide +kernel
theorem dX4_most_5 : decode cX4_most 5 = .ok (.aload_n 0, 1) := by decide +kernel
theorem dX4_most_6 : decode cX4_most 6 = .ok (.getfield 10, 3) := by decide +kernel
theorem dX4_most_9 : decode cX4_most 9 = .ok (.getfield 64, 3) := by decide +kernel
theorem dX4_most_12 : decode cX4_most 12 = .ok (.if_icmp .ge 31, 3) := by decide +kernel
theorem dX4_most_15 : decode cX4_most 15 = .ok (.iload_n 3, 1) := by decide +kernel
theorem dX4_most_16 : decode cX4_most 16 = .ok (.aload_n 1, 1) := by decide +kernel
theorem dX4_most_17 : decode cX4_most 17 = .ok (.arraylength, 1) := by decide +kernel
theorem dX4_most_18 : decode cX4_most 18 = .ok (.if_icmp .ge 25, 3) := by decide +kernel
theorem dX4_most_21 : decode cX4_most 21 = .ok (.iload_n 2, 1) := by decide +kernel
theorem dX4_most_22 : decode cX4_most 22 = .ok (.iconst (-1), 1) := by decide +kernel
theorem dX4_most_23 : decode cX4_most 23 = .ok (.if_icmp .eq 12, 3) := by decide +kernel
theorem dX4_most_26 : decode cX4_most 26 = .ok (.aload_n 1, 1) := by decide +kernel
theorem dX4_most_27 : decode cX4_most 27 = .ok (.iload_n 3, 1) := by decide +kernel
theorem dX4_most_28 : decode cX4_most 28 = .ok (.iaload, 1) := by decide +kernel
theorem dX4_most_29 : decode cX4_most 29 = .ok (.aload_n 1, 1) := by decide +kernel
theorem dX4_most_30 : decode cX4_most 30 = .ok (.iload_n 2, 1) := by decide +kernel
theorem dX4_most_31 : decode cX4_most 31 = .ok (.iaload, 1) := by decide +kernel
theorem dX4_most_32 : decode cX4_most 32 = .ok (.if_icmp .le 5, 3) := by decide +kernel
theorem dX4_most_35 : decode cX4_most 35 = .ok (.iload_n 3, 1) := by decide +kernel
theorem dX4_most_36 : decode cX4_most 36 = .ok (.istore_n 2, 1) := by decide +kernel
theorem dX4_most_37 : decode cX4_most 37 = .ok (.iinc 3 1, 3) := by decide +kernel
theorem dX4_most_40 : decode cX4_most 40 = .ok (.goto (-36), 3) := by decide +kernel
theorem dX4_most_43 : decode cX4_most 43 = .ok (.iload_n 2, 1) := by decide +kernel
theorem dX4_most_44 : decode cX4_most 44 = .ok (.ireturn, 1) := by decide +kernel
theorem dX4_sum_0 : decode cX4_sum 0 = .ok (.iconst 0, 1) := by decide +kernel
theorem dX4_sum_1 : decode cX4_sum 1 = .ok (.istore_n 2, 1) := by decide +kernel
theorem dX4_sum_2 : decode cX4_sum 2 = .ok (.iconst 0, 1) := by decide +kernel
theorem dX4_sum_3 : decode cX4_sum 3 = .ok (.istore_n 3, 1) := by decide +kernel
theorem dX4_sum_4 : decode cX4_sum 4 = .ok (.iload_n 3, 1) := by decide +kernel
theorem dX4_sum_5 : decode cX4_sum 5 = .ok (.aload_n 0, 1) := by decide +kernel
theorem dX4_sum_6 : decode cX4_sum 6 = .ok (.getfield 10, 3) := by decide +kernel
theorem dX4_sum_9 : decode cX4_sum 9 = .ok (.getfield 64, 3) := by decide +kernel
theorem dX4_sum_12 : decode cX4_sum 12 = .ok (.if_icmp .ge 21, 3) := by decide +kernel
theorem dX4_sum_15 : decode cX4_sum 15 = .ok (.iload_n 3, 1) := by decide +kernel
theorem dX4_sum_16 : decode cX4_sum 16 = .ok (.aload_n 1, 1) := by decide +kernel
theorem dX4_sum_17 : decode cX4_sum 17 = .ok (.arraylength, 1) := by decide +kernel
theorem dX4_sum_18 : decode cX4_sum 18 = .ok (.if_icmp .ge 15, 3) := by decide +kernel
theorem dX4_sum_21 : decode cX4_sum 21 = .ok (.iload_n 2, 1) := by decide +kernel
theorem dX4_sum_22 : decode cX4_sum 22 = .ok (.aload_n 1, 1) := by decide +kernel
theorem dX4_sum_23 : decode cX4_sum 23 = .ok (.iload_n 3, 1) := by decide +kernel
theorem dX4_sum_24 : decode cX4_sum 24 = .ok (.iaload, 1) := by decide +kernel
theorem dX4_sum_25 : decode cX4_sum 25 = .ok (.iadd, 1) := by decide +kernel
theorem dX4_sum_26 : decode cX4_sum 26 = .ok (.istore_n 2, 1) := by decide +kernel
theorem dX4_sum_27 : decode cX4_sum 27 = .ok (.iinc 3 1, 3) := by decide +kernel
theorem dX4_sum_30 : decode cX4_sum 30 = .ok (.goto (-26), 3) := by decide +kernel
theorem dX4_sum_33 : decode cX4_sum 33 = .ok (.iload_n 2, 1) := by decide +kernel
theorem dX4_sum_34 : decode cX4_sum 34 = .ok (.ireturn, 1) := by decide +kernel
set_option maxRecDepth 20000 in
theorem ggX4_sheetRefusal_X4_isSheet : GoodIn wsX4_sheetRefusal wsX4_isSheet := goodIn_r _ [7] rfl (by decide +kernel)
