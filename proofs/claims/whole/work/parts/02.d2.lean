theorem dX2_danceOnce_91 : decode cX2_danceOnce 91 = .ok (.invokevirtual 97, 3) := by decide +kernel
theorem dX2_danceOnce_94 : decode cX2_danceOnce 94 = .ok (.iinc 1 1, 3) := by decide +kernel
theorem dX2_danceOnce_97 : decode cX2_danceOnce 97 = .ok (.goto (-95), 3) := by decide +kernel
theorem dX2_danceOnce_100 : decode cX2_danceOnce 100 = .ok (.aload_n 0, 1) := by decide +kernel
theorem dX2_danceOnce_101 : decode cX2_danceOnce 101 = .ok (.getfield 50, 3) := by decide +kernel
theorem dX2_danceOnce_104 : decode cX2_danceOnce 104 = .ok (.getfield 101, 3) := by decide +kernel
theorem dX2_danceOnce_107 : decode cX2_danceOnce 107 = .ok (.ireturn, 1) := by decide +kernel
theorem dX2_keepDance_0 : decode cX2_keepDance 0 = .ok (.iconst 0, 1) := by decide +kernel
theorem dX2_keepDance_1 : decode cX2_keepDance 1 = .ok (.istore_n 2, 1) := by decide +kernel
theorem dX2_keepDance_2 : decode cX2_keepDance 2 = .ok (.iload_n 2, 1) := by decide +kernel
theorem dX2_keepDance_3 : decode cX2_keepDance 3 = .ok (.iconst 5, 1) := by decide +kernel
theorem dX2_keepDance_4 : decode cX2_keepDance 4 = .ok (.if_icmp .ge 21, 3) := by decide +kernel
theorem dX2_keepDance_7 : decode cX2_keepDance 7 = .ok (.aload_n 0, 1) := by decide +kernel
theorem dX2_keepDance_8 : decode cX2_keepDance 8 = .ok (.getfield 60, 3) := by decide +kernel
theorem dX2_keepDance_11 : decode cX2_keepDance 11 = .ok (.iload_n 2, 1) := by decide +kernel
theorem dX2_keepDance_12 : decode cX2_keepDance 12 = .ok (.aload_n 0, 1) := by decide +kernel
theorem dX2_keepDance_13 : decode cX2_keepDance 13 = .ok (.getfield 57, 3) := by decide +kernel
theorem dX2_keepDance_16 : decode cX2_keepDance 16 = .ok (.iload_n 2, 1) := by decide +kernel
theorem dX2_keepDance_17 : decode cX2_keepDance 17 = .ok (.iaload, 1) := by decide +kernel
theorem dX2_keepDance_18 : decode cX2_keepDance 18 = .ok (.iastore, 1) := by decide +kernel
theorem dX2_keepDance_19 : decode cX2_keepDance 19 = .ok (.iinc 2 1, 3) := by decide +kernel
theorem dX2_keepDance_22 : decode cX2_keepDance 22 = .ok (.goto (-20), 3) := by decide +kernel
theorem dX2_keepDance_25 : decode cX2_keepDance 25 = .ok (.aload_n 0, 1) := by decide +kernel
theorem dX2_keepDance_26 : decode cX2_keepDance 26 = .ok (.getfield 60, 3) := by decide +kernel
theorem dX2_keepDance_29 : decode cX2_keepDance 29 = .ok (.iconst 0, 1) := by decide +kernel
theorem dX2_keepDance_30 : decode cX2_keepDance 30 = .ok (.iload_n 1, 1) := by decide +kernel
theorem dX2_keepDance_31 : decode cX2_keepDance 31 = .ok (.iastore, 1) := by decide +kernel
theorem dX2_keepDance_32 : decode cX2_keepDance 32 = .ok (.return_, 1) := by decide +kernel
set_option maxRecDepth 20000 in
theorem ggX2_placeOf_X2_isAhead : GoodIn wsX2_placeOf wsX2_isAhead := goodIn_r _ [5, 6, 7, 8, 9, 4, 10, 11, 12, 13, 14, 15, 16, 17, 18, 19, 20, 21, 22, 23, 24, 25, 26, 27, 28, 29, 30, 31, 32, 33, 34, 35, 36, 37, 38, 39, 40, 41, 42, 43, 44, 45, 46] (by decide +kernel) (by decide +kernel)
set_option maxRecDepth 20000 in
theorem gX2_placeOf_X2_isAhead : GoodIn wsX2_placeOf (wsV RX2 267 RX2 yX2_isAhead wsX2_isAhead) := goodIn_app (goodIn_of _ (by decide +kernel)) ggX2_placeOf_X2_isAhead
theorem dX2_placeOf_0 : decode cX2_placeOf 0 = .ok (.iconst 0, 1) := by decide +kernel
theorem dX2_placeOf_1 : decode cX2_placeOf 1 = .ok (.istore_n 2, 1) := by decide +kernel
theorem dX2_placeOf_2 : decode cX2_placeOf 2 = .ok (.iconst 0, 1) := by decide +kernel
theorem dX2_placeOf_3 : decode cX2_placeOf 3 = .ok (.istore_n 3, 1) := by decide +kernel
theorem dX2_placeOf_4 : decode cX2_placeOf 4 = .ok (.iload_n 3, 1) := by decide +kernel
theorem dX2_placeOf_5 : decode cX2_placeOf 5 = .ok (.bipush 8, 2) := by decide +kernel
theorem dX2_placeOf_7 : decode cX2_placeOf 7 = .ok (.if_icmp .ge 21, 3) := by decide +kernel
theorem dX2_placeOf_10 : decode cX2_placeOf 10 = .ok (.aload_n 0, 1) := by decide +kernel
theorem dX2_placeOf_11 : decode cX2_placeOf 11 = .ok (.iload_n 3, 1) := by decide +kernel
theorem dX2_placeOf_12 : decode cX2_placeOf 12 = .ok (.iload_n 1, 1) := by decide +kernel
theorem dX2_placeOf_13 : decode cX2_placeOf 13 = .ok (.invokevirtual 267, 3) := by decide +kernel
theorem dX2_placeOf_16 : decode cX2_placeOf 16 = .ok (.ifCond .eq 6, 3) := by decide +kernel
theorem dX2_placeOf_19 : decode cX2_placeOf 19 = .ok (.iinc 2 1, 3) := by decide +kernel
theorem dX2_placeOf_22 : decode cX2_placeOf 22 = .ok (.iinc 3 1, 3) := by decide +kernel
theorem dX2_placeOf_25 : decode cX2_placeOf 25 = .ok (.goto (-21), 3) := by decide +kernel
theorem dX2_placeOf_28 : decode cX2_placeOf 28 = .ok (.iload_n 2, 1) := by decide +kernel
theorem dX2_placeOf_29 : decode cX2_placeOf 29 = .ok (.ireturn, 1) := by decide +kernel
set_option maxRecDepth 20000 in
theorem ggX2_isAhead_X2_compareStrung : GoodIn wsX2_isAhead wsX2_compareStrung := goodIn_r _ [6, 7, 8, 9, 10, 11, 12, 13, 14, 15, 16, 17, 18, 19, 20, 21, 22, 23, 24, 25, 26, 27, 28, 29, 30, 31, 32, 33, 34, 35, 36, 37, 38, 39, 40, 41, 42] (by decide +kernel) (by decide +kernel)
set_option maxRecDepth 20000 in
theorem gX2_isAhead_X2_compareStrung : GoodIn wsX2_isAhead (wsV RX2 271 RX2 yX2_compareStrung wsX2_compareStrung) := goodIn_app (goodIn_of _ (by decide +kernel)) ggX2_isAhead_X2_compareStrung
theorem dX2_isAhead_0 : decode cX2_isAhead 0 = .ok (.aload_n 0, 1) := by decide +kernel
theorem dX2_isAhead_1 : decode cX2_isAhead 1 = .ok (.getfield 29, 3) := by decide +kernel
theorem dX2_isAhead_4 : decode cX2_isAhead 4 = .ok (.iload_n 1, 1) := by decide +kernel
theorem dX2_isAhead_5 : decode cX2_isAhead 5 = .ok (.baload, 1) := by decide +kernel
theorem dX2_isAhead_6 : decode cX2_isAhead 6 = .ok (.aload_n 0, 1) := by decide +kernel
theorem dX2_isAhead_7 : decode cX2_isAhead 7 = .ok (.getfield 29, 3) := by decide +kernel
theorem dX2_isAhead_10 : decode cX2_isAhead 10 = .ok (.iload_n 2, 1) := by decide +kernel
theorem dX2_isAhead_11 : decode cX2_isAhead 11 = .ok (.baload, 1) := by decide +kernel
theorem dX2_isAhead_12 : decode cX2_isAhead 12 = .ok (.if_icmp .eq 10, 3) := by decide +kernel
theorem dX2_isAhead_15 : decode cX2_isAhead 15 = .ok (.aload_n 0, 1) := by decide +kernel
theorem dX2_isAhead_16 : decode cX2_isAhead 16 = .ok (.getfield 29, 3) := by decide +kernel
theorem dX2_isAhead_19 : decode cX2_isAhead 19 = .ok (.iload_n 2, 1) := by decide +kernel
theorem dX2_isAhead_20 : decode cX2_isAhead 20 = .ok (.baload, 1) := by decide +kernel
theorem dX2_isAhead_21 : decode cX2_isAhead 21 = .ok (.ireturn, 1) := by decide +kernel
theorem dX2_isAhead_22 : decode cX2_isAhead 22 = .ok (.aload_n 0, 1) := by decide +kernel
theorem dX2_isAhead_23 : decode cX2_isAhead 23 = .ok (.getfield 29, 3) := by decide +kernel
theorem dX2_isAhead_26 : decode cX2_isAhead 26 = .ok (.iload_n 1, 1) := by decide +kernel
theorem dX2_isAhead_27 : decode cX2_isAhead 27 = .ok (.baload, 1) := by decide +kernel
theorem dX2_isAhead_28 : decode cX2_isAhead 28 = .ok (.ifCond .eq 7, 3) := by decide +kernel
theorem dX2_isAhead_31 : decode cX2_isAhead 31 = .ok (.iconst 0, 1) := by decide +kernel
theorem dX2_isAhead_32 : decode cX2_isAhead 32 = .ok (.goto 9, 3) := by decide +kernel
theorem dX2_isAhead_35 : decode cX2_isAhead 35 = .ok (.aload_n 0, 1) := by decide +kernel
theorem dX2_isAhead_36 : decode cX2_isAhead 36 = .ok (.iload_n 1, 1) := by decide +kernel
theorem dX2_isAhead_37 : decode cX2_isAhead 37 = .ok (.iload_n 2, 1) := by decide +kernel
theorem dX2_isAhead_38 : decode cX2_isAhead 38 = .ok (.invokevirtual 271, 3) := by decide +kernel
theorem dX2_isAhead_41 : decode cX2_isAhead 41 = .ok (.istore_n 3, 1) := by decide +kernel
theorem dX2_isAhead_42 : decode cX2_isAhead 42 = .ok (.iload_n 3, 1) := by decide +kernel
theorem dX2_isAhead_43 : decode cX2_isAhead 43 = .ok (.ifCond .ne 16, 3) := by decide +kernel
theorem dX2_isAhead_46 : decode cX2_isAhead 46 = .ok (.iload_n 1, 1) := by decide +kernel
theorem dX2_isAhead_47 : decode cX2_isAhead 47 = .ok (.iload_n 2, 1) := by decide +kernel
theorem dX2_isAhead_48 : decode cX2_isAhead 48 = .ok (.if_icmp .ge 7, 3) := by decide +kernel
theorem dX2_isAhead_51 : decode cX2_isAhead 51 = .ok (.iconst 1, 1) := by decide +kernel
theorem dX2_isAhead_52 : decode cX2_isAhead 52 = .ok (.goto 16, 3) := by decide +kernel
theorem dX2_isAhead_55 : decode cX2_isAhead 55 = .ok (.iconst 0, 1) := by decide +kernel
theorem dX2_isAhead_56 : decode cX2_isAhead 56 = .ok (.goto 12, 3) := by decide +kernel
theorem dX2_isAhead_59 : decode cX2_isAhead 59 = .ok (.iload_n 3, 1) := by decide +kernel
theorem dX2_isAhead_60 : decode cX2_isAhead 60 = .ok (.ifCond .ge 7, 3) := by decide +kernel
theorem dX2_isAhead_63 : decode cX2_isAhead 63 = .ok (.iconst 1, 1) := by decide +kernel
theorem dX2_isAhead_64 : decode cX2_isAhead 64 = .ok (.goto 4, 3) := by decide +kernel
theorem dX2_isAhead_67 : decode cX2_isAhead 67 = .ok (.iconst 0, 1) := by decide +kernel
theorem dX2_isAhead_68 : decode cX2_isAhead 68 = .ok (.ireturn, 1) := by decide +kernel
set_option maxRecDepth 20000 in
theorem ggX2_compareStrung_X1_rank : GoodIn wsX2_compareStrung wsX1_rank := goodIn_r _ [8, 9] (by decide +kernel) (by decide +kernel)
set_option maxRecDepth 20000 in
theorem gX2_compareStrung_X1_rank : GoodIn wsX2_compareStrung (va_wsS RX2 274 yX1_rank wsX1_rank) := goodIn_app (goodIn_of _ (by decide +kernel)) ggX2_compareStrung_X1_rank
set_option maxRecDepth 20000 in
theorem ggX2_compareStrung_J13_compare_74951 : GoodIn wsX2_compareStrung wsJ13_compare_74951 := goodIn_r _ [13] (by decide +kernel) (by decide +kernel)
set_option maxRecDepth 20000 in
theorem gX2_compareStrung_J13_compare_74951 : GoodIn wsX2_compareStrung (va_wsS RX2 277 yJ13_compare_74951 wsJ13_compare_74951) := goodIn_app (goodIn_of _ (by decide +kernel)) ggX2_compareStrung_J13_compare_74951
set_option maxRecDepth 20000 in
theorem ggX2_compareStrung_X1_shortRank : GoodIn wsX2_compareStrung wsX1_shortRank := goodIn_r _ [16, 17] (by decide +kernel) (by decide +kernel)
set_option maxRecDepth 20000 in
theorem gX2_compareStrung_X1_shortRank : GoodIn wsX2_compareStrung (va_wsS RX2 283 yX1_shortRank wsX1_shortRank) := goodIn_app (goodIn_of _ (by decide +kernel)) ggX2_compareStrung_X1_shortRank
set_option maxRecDepth 20000 in
theorem ggX2_compareStrung_J6_compare_7cf53 : GoodIn wsX2_compareStrung wsJ6_compare_7cf53 := goodIn_r _ [21] (by decide +kernel) (by decide +kernel)
set_option maxRecDepth 20000 in
theorem gX2_compareStrung_J6_compare_7cf53 : GoodIn wsX2_compareStrung (va_wsS RX2 286 yJ6_compare_7cf53 wsJ6_compare_7cf53) := goodIn_app (goodIn_of _ (by decide +kernel)) ggX2_compareStrung_J6_compare_7cf53
theorem dX2_compareStrung_0 : decode cX2_compareStrung 0 = .ok (.aload_n 0, 1) := by decide +kernel
theorem dX2_compareStrung_1 : decode cX2_compareStrung 1 = .ok (.getfield 9, 3) := by decide +kernel
theorem dX2_compareStrung_4 : decode cX2_compareStrung 4 = .ok (.iload_n 1, 1) := by decide +kernel
theorem dX2_compareStrung_5 : decode cX2_compareStrung 5 = .ok (.laload, 1) := by decide +kernel
theorem dX2_compareStrung_6 : decode cX2_compareStrung 6 = .ok (.invokestatic 274, 3) := by decide +kernel
theorem dX2_compareStrung_9 : decode cX2_compareStrung 9 = .ok (.aload_n 0, 1) := by decide +kernel
theorem dX2_compareStrung_10 : decode cX2_compareStrung 10 = .ok (.getfield 9, 3) := by decide +kernel
theorem dX2_compareStrung_13 : decode cX2_compareStrung 13 = .ok (.iload_n 2, 1) := by decide +kernel
theorem dX2_compareStrung_14 : decode cX2_compareStrung 14 = .ok (.laload, 1) := by decide +kernel
theorem dX2_compareStrung_15 : decode cX2_compareStrung 15 = .ok (.invokestatic 274, 3) := by decide +kernel
theorem dX2_compareStrung_18 : decode cX2_compareStrung 18 = .ok (.invokestatic 277, 3) := by decide +kernel
theorem dX2_compareStrung_21 : decode cX2_compareStrung 21 = .ok (.istore_n 3, 1) := by decide +kernel
theorem dX2_compareStrung_22 : decode cX2_compareStrung 22 = .ok (.iload_n 3, 1) := by decide +kernel
theorem dX2_compareStrung_23 : decode cX2_compareStrung 23 = .ok (.ifCond .ne 25, 3) := by decide +kernel
theorem dX2_compareStrung_26 : decode cX2_compareStrung 26 = .ok (.aload_n 0, 1) := by decide +kernel
theorem dX2_compareStrung_27 : decode cX2_compareStrung 27 = .ok (.getfield 13, 3) := by decide +kernel
theorem dX2_compareStrung_30 : decode cX2_compareStrung 30 = .ok (.iload_n 1, 1) := by decide +kernel
theorem dX2_compareStrung_31 : decode cX2_compareStrung 31 = .ok (.iaload, 1) := by decide +kernel
theorem dX2_compareStrung_32 : decode cX2_compareStrung 32 = .ok (.invokestatic 283, 3) := by decide +kernel
theorem dX2_compareStrung_35 : decode cX2_compareStrung 35 = .ok (.aload_n 0, 1) := by decide +kernel
theorem dX2_compareStrung_36 : decode cX2_compareStrung 36 = .ok (.getfield 13, 3) := by decide +kernel
theorem dX2_compareStrung_39 : decode cX2_compareStrung 39 = .ok (.iload_n 2, 1) := by decide +kernel
theorem dX2_compareStrung_40 : decode cX2_compareStrung 40 = .ok (.iaload, 1) := by decide +kernel
theorem dX2_compareStrung_41 : decode cX2_compareStrung 41 = .ok (.invokestatic 283, 3) := by decide +kernel
theorem dX2_compareStrung_44 : decode cX2_compareStrung 44 = .ok (.invokestatic 286, 3) := by decide +kernel
theorem dX2_compareStrung_47 : decode cX2_compareStrung 47 = .ok (.istore_n 3, 1) := by decide +kernel
theorem dX2_compareStrung_48 : decode cX2_compareStrung 48 = .ok (.iload_n 3, 1) := by decide +kernel
theorem dX2_compareStrung_49 : decode cX2_compareStrung 49 = .ok (.ifCond .ne 19, 3) := by decide +kernel
theorem dX2_compareStrung_52 : decode cX2_compareStrung 52 = .ok (.aload_n 0, 1) := by decide +kernel
theorem dX2_compareStrung_53 : decode cX2_compareStrung 53 = .ok (.getfield 17, 3) := by decide +kernel
theorem dX2_compareStrung_56 : decode cX2_compareStrung 56 = .ok (.iload_n 1, 1) := by decide +kernel
theorem dX2_compareStrung_57 : decode cX2_compareStrung 57 = .ok (.iaload, 1) := by decide +kernel
theorem dX2_compareStrung_58 : decode cX2_compareStrung 58 = .ok (.aload_n 0, 1) := by decide +kernel
theorem dX2_compareStrung_59 : decode cX2_compareStrung 59 = .ok (.getfield 17, 3) := by decide +kernel
theorem dX2_compareStrung_62 : decode cX2_compareStrung 62 = .ok (.iload_n 2, 1) := by decide +kernel
theorem dX2_compareStrung_63 : decode cX2_compareStrung 63 = .ok (.iaload, 1) := by decide +kernel
theorem dX2_compareStrung_64 : decode cX2_compareStrung 64 = .ok (.invokestatic 286, 3) := by decide +kernel
theorem dX2_compareStrung_67 : decode cX2_compareStrung 67 = .ok (.istore_n 3, 1) := by decide +kernel
theorem dX2_compareStrung_68 : decode cX2_compareStrung 68 = .ok (.iload_n 3, 1) := by decide +kernel
theorem dX2_compareStrung_69 : decode cX2_compareStrung 69 = .ok (.ifCond .ne 19, 3) := by decide +kernel
theorem dX2_compareStrung_72 : decode cX2_compareStrung 72 = .ok (.aload_n 0, 1) := by decide +kernel
theorem dX2_compareStrung_73 : decode cX2_compareStrung 73 = .ok (.getfield 20, 3) := by decide +kernel
theorem dX2_compareStrung_76 : decode cX2_compareStrung 76 = .ok (.iload_n 1, 1) := by decide +kernel
theorem dX2_compareStrung_77 : decode cX2_compareStrung 77 = .ok (.laload, 1) := by decide +kernel
theorem dX2_compareStrung_78 : decode cX2_compareStrung 78 = .ok (.aload_n 0, 1) := by decide +kernel
theorem dX2_compareStrung_79 : decode cX2_compareStrung 79 = .ok (.getfield 20, 3) := by decide +kernel
theorem dX2_compareStrung_82 : decode cX2_compareStrung 82 = .ok (.iload_n 2, 1) := by decide +kernel
theorem dX2_compareStrung_83 : decode cX2_compareStrung 83 = .ok (.laload, 1) := by decide +kernel
theorem dX2_compareStrung_84 : decode cX2_compareStrung 84 = .ok (.invokestatic 277, 3) := by decide +kernel
theorem dX2_compareStrung_87 : decode cX2_compareStrung 87 = .ok (.istore_n 3, 1) := by decide +kernel
theorem dX2_compareStrung_88 : decode cX2_compareStrung 88 = .ok (.iload_n 3, 1) := by decide +kernel
theorem dX2_compareStrung_89 : decode cX2_compareStrung 89 = .ok (.ireturn, 1) := by decide +kernel
set_option maxRecDepth 20000 in
theorem ggX3_init_X3_begin : GoodIn wsX3_init wsX3_begin := goodIn_r _ [25, 5, 7, 9, 10, 11, 12, 13, 26, 27, 24, 28, 29, 30, 31, 32, 33, 34, 35, 36, 37, 38, 39, 40, 41, 42, 43, 44, 45, 46, 47, 48, 49, 50, 51, 52, 53, 54, 55, 56, 57, 58, 59, 60] (by decide +kernel) (by decide +kernel)
set_option maxRecDepth 20000 in
theorem gX3_init_X3_begin : GoodIn wsX3_init (wsV RX3 54 RX3 yX3_begin wsX3_begin) := goodIn_app (goodIn_of _ (by decide +kernel)) ggX3_init_X3_begin
theorem dX3_init_0 : decode cX3_init 0 = .ok (.aload_n 0, 1) := by decide +kernel
theorem dX3_init_1 : decode cX3_init 1 = .ok (.invokespecial 1, 3) := by decide +kernel
theorem dX3_init_4 : decode cX3_init 4 = .ok (.aload_n 0, 1) := by decide +kernel
theorem dX3_init_5 : decode cX3_init 5 = .ok (.bipush 8, 2) := by decide +kernel
theorem dX3_init_7 : decode cX3_init 7 = .ok (.newarray .boolean, 2) := by decide +kernel
theorem dX3_init_9 : decode cX3_init 9 = .ok (.putfield 7, 3) := by decide +kernel
theorem dX3_init_12 : decode cX3_init 12 = .ok (.aload_n 0, 1) := by decide +kernel
theorem dX3_init_13 : decode cX3_init 13 = .ok (.bipush 8, 2) := by decide +kernel
theorem dX3_init_15 : decode cX3_init 15 = .ok (.newarray .long, 2) := by decide +kernel
theorem dX3_init_17 : decode cX3_init 17 = .ok (.putfield 13, 3) := by decide +kernel
theorem dX3_init_20 : decode cX3_init 20 = .ok (.aload_n 0, 1) := by decide +kernel
theorem dX3_init_21 : decode cX3_init 21 = .ok (.bipush 8, 2) := by decide +kernel
theorem dX3_init_23 : decode cX3_init 23 = .ok (.newarray .int, 2) := by decide +kernel
theorem dX3_init_25 : decode cX3_init 25 = .ok (.putfield 17, 3) := by decide +kernel
theorem dX3_init_28 : decode cX3_init 28 = .ok (.aload_n 0, 1) := by decide +kernel
theorem dX3_init_29 : decode cX3_init 29 = .ok (.bipush 8, 2) := by decide +kernel
theorem dX3_init_31 : decode cX3_init 31 = .ok (.newarray .int, 2) := by decide +kernel
theorem dX3_init_33 : decode cX3_init 33 = .ok (.putfield 21, 3) := by decide +kernel
theorem dX3_init_36 : decode cX3_init 36 = .ok (.aload_n 0, 1) := by decide +kernel
theorem dX3_init_37 : decode cX3_init 37 = .ok (.bipush 8, 2) := by decide +kernel
theorem dX3_init_39 : decode cX3_init 39 = .ok (.newarray .long, 2) := by decide +kernel
theorem dX3_init_41 : decode cX3_init 41 = .ok (.putfield 24, 3) := by decide +kernel
theorem dX3_init_44 : decode cX3_init 44 = .ok (.aload_n 0, 1) := by decide +kernel
theorem dX3_init_45 : decode cX3_init 45 = .ok (.bipush 8, 2) := by decide +kernel
theorem dX3_init_47 : decode cX3_init 47 = .ok (.newarray .long, 2) := by decide +kernel
theorem dX3_init_49 : decode cX3_init 49 = .ok (.putfield 27, 3) := by decide +kernel
theorem dX3_init_52 : decode cX3_init 52 = .ok (.aload_n 0, 1) := by decide +kernel
theorem dX3_init_53 : decode cX3_init 53 = .ok (.bipush 8, 2) := by decide +kernel
theorem dX3_init_55 : decode cX3_init 55 = .ok (.newarray .long, 2) := by decide +kernel
theorem dX3_init_57 : decode cX3_init 57 = .ok (.putfield 30, 3) := by decide +kernel
theorem dX3_init_60 : decode cX3_init 60 = .ok (.aload_n 0, 1) := by decide +kernel
theorem dX3_init_61 : decode cX3_init 61 = .ok (.bipush 120, 2) := by decide +kernel
theorem dX3_init_63 : decode cX3_init 63 = .ok (.newarray .int, 2) := by decide +kernel
theorem dX3_init_65 : decode cX3_init 65 = .ok (.putfield 33, 3) := by decide +kernel
theorem dX3_init_68 : decode cX3_init 68 = .ok (.aload_n 0, 1) := by decide +kernel
theorem dX3_init_69 : decode cX3_init 69 = .ok (.iconst 4, 1) := by decide +kernel
theorem dX3_init_70 : decode cX3_init 70 = .ok (.newarray .int, 2) := by decide +kernel
theorem dX3_init_72 : decode cX3_init 72 = .ok (.putfield 36, 3) := by decide +kernel
theorem dX3_init_75 : decode cX3_init 75 = .ok (.aload_n 0, 1) := by decide +kernel
theorem dX3_init_76 : decode cX3_init 76 = .ok (.bipush 8, 2) := by decide +kernel
theorem dX3_init_78 : decode cX3_init 78 = .ok (.newarray .long, 2) := by decide +kernel
theorem dX3_init_80 : decode cX3_init 80 = .ok (.putfield 39, 3) := by decide +kernel
theorem dX3_init_83 : decode cX3_init 83 = .ok (.aload_n 0, 1) := by decide +kernel
theorem dX3_init_84 : decode cX3_init 84 = .ok (.bipush 8, 2) := by decide +kernel
theorem dX3_init_86 : decode cX3_init 86 = .ok (.newarray .int, 2) := by decide +kernel
theorem dX3_init_88 : decode cX3_init 88 = .ok (.putfield 42, 3) := by decide +kernel
theorem dX3_init_91 : decode cX3_init 91 = .ok (.aload_n 0, 1) := by decide +kernel
theorem dX3_init_92 : decode cX3_init 92 = .ok (.bipush 8, 2) := by decide +kernel
theorem dX3_init_94 : decode cX3_init 94 = .ok (.newarray .int, 2) := by decide +kernel
theorem dX3_init_96 : decode cX3_init 96 = .ok (.putfield 45, 3) := by decide +kernel
theorem dX3_init_99 : decode cX3_init 99 = .ok (.aload_n 0, 1) := by decide +kernel
theorem dX3_init_100 : decode cX3_init 100 = .ok (.bipush 8, 2) := by decide +kernel
theorem dX3_init_102 : decode cX3_init 102 = .ok (.newarray .long, 2) := by decide +kernel
theorem dX3_init_104 : decode cX3_init 104 = .ok (.putfield 48, 3) := by decide +kernel
theorem dX3_init_107 : decode cX3_init 107 = .ok (.aload_n 0, 1) := by decide +kernel
theorem dX3_init_108 : decode cX3_init 108 = .ok (.iconst 4, 1) := by decide +kernel
theorem dX3_init_109 : decode cX3_init 109 = .ok (.newarray .int, 2) := by decide +kernel
theorem dX3_init_111 : decode cX3_init 111 = .ok (.putfield 51, 3) := by decide +kernel
theorem dX3_init_114 : decode cX3_init 114 = .ok (.iconst 0, 1) := by decide +kernel
theorem dX3_init_115 : decode cX3_init 115 = .ok (.istore_n 1, 1) := by decide +kernel
theorem dX3_init_116 : decode cX3_init 116 = .ok (.iload_n 1, 1) := by decide +kernel
theorem dX3_init_117 : decode cX3_init 117 = .ok (.bipush 8, 2) := by decide +kernel
theorem dX3_init_119 : decode cX3_init 119 = .ok (.if_icmp .ge 14, 3) := by decide +kernel
theorem dX3_init_122 : decode cX3_init 122 = .ok (.aload_n 0, 1) := by decide +kernel
theorem dX3_init_123 : decode cX3_init 123 = .ok (.iload_n 1, 1) := by decide +kernel
theorem dX3_init_124 : decode cX3_init 124 = .ok (.invokevirtual 54, 3) := by decide +kernel
theorem dX3_init_127 : decode cX3_init 127 = .ok (.iinc 1 1, 3) := by decide +kernel
theorem dX3_init_130 : decode cX3_init 130 = .ok (.goto (-14), 3) := by decide +kernel
theorem dX3_init_133 : decode cX3_init 133 = .ok (.return_, 1) := by decide +kernel
set_option maxRecDepth 20000 in
theorem ggX3_begin_X3_endless : GoodIn wsX3_begin wsX3_endless := goodIn_r _ [11, 12, 13, 14, 10, 15, 16, 17] (by decide +kernel) (by decide +kernel)
set_option maxRecDepth 20000 in
theorem gX3_begin_X3_endless : GoodIn wsX3_begin (va_wsS RX3 58 yX3_endless wsX3_endless) := goodIn_app (goodIn_of _ (by decide +kernel)) ggX3_begin_X3_endless
set_option maxRecDepth 20000 in
theorem ggX3_begin_X3_sign : GoodIn wsX3_begin wsX3_sign := goodIn_r _ [20, 21, 22] (by decide +kernel) (by decide +kernel)
set_option maxRecDepth 20000 in
theorem gX3_begin_X3_sign : GoodIn wsX3_begin (va_wsS RX3 62 yX3_sign wsX3_sign) := goodIn_app (goodIn_of _ (by decide +kernel)) ggX3_begin_X3_sign
theorem dX3_begin_0 : decode cX3_begin 0 = .ok (.aload_n 0, 1) := by decide +kernel
theorem dX3_begin_1 : decode cX3_begin 1 = .ok (.getfield 7, 3) := by decide +kernel
theorem dX3_begin_4 : decode cX3_begin 4 = .ok (.iload_n 1, 1) := by decide +kernel
theorem dX3_begin_5 : decode cX3_begin 5 = .ok (.iconst 0, 1) := by decide +kernel
theorem dX3_begin_6 : decode cX3_begin 6 = .ok (.bastore, 1) := by decide +kernel
theorem dX3_begin_7 : decode cX3_begin 7 = .ok (.aload_n 0, 1) := by decide +kernel
theorem dX3_begin_8 : decode cX3_begin 8 = .ok (.getfield 13, 3) := by decide +kernel
theorem dX3_begin_11 : decode cX3_begin 11 = .ok (.iload_n 1, 1) := by decide +kernel
theorem dX3_begin_12 : decode cX3_begin 12 = .ok (.lconst 0, 1) := by decide +kernel
theorem dX3_begin_13 : decode cX3_begin 13 = .ok (.lastore, 1) := by decide +kernel
theorem dX3_begin_14 : decode cX3_begin 14 = .ok (.aload_n 0, 1) := by decide +kernel
theorem dX3_begin_15 : decode cX3_begin 15 = .ok (.getfield 17, 3) := by decide +kernel
theorem dX3_begin_18 : decode cX3_begin 18 = .ok (.iload_n 1, 1) := by decide +kernel
theorem dX3_begin_19 : decode cX3_begin 19 = .ok (.iconst 0, 1) := by decide +kernel
theorem dX3_begin_20 : decode cX3_begin 20 = .ok (.iastore, 1) := by decide +kernel
theorem dX3_begin_21 : decode cX3_begin 21 = .ok (.aload_n 0, 1) := by decide +kernel
theorem dX3_begin_22 : decode cX3_begin 22 = .ok (.getfield 21, 3) := by decide +kernel
theorem dX3_begin_25 : decode cX3_begin 25 = .ok (.iload_n 1, 1) := by decide +kernel
theorem dX3_begin_26 : decode cX3_begin 26 = .ok (.iconst 0, 1) := by decide +kernel
theorem dX3_begin_27 : decode cX3_begin 27 = .ok (.iastore, 1) := by decide +kernel
theorem dX3_begin_28 : decode cX3_begin 28 = .ok (.aload_n 0, 1) := by decide +kernel
theorem dX3_begin_29 : decode cX3_begin 29 = .ok (.getfield 24, 3) := by decide +kernel
theorem dX3_begin_32 : decode cX3_begin 32 = .ok (.iload_n 1, 1) := by decide +kernel
theorem dX3_begin_33 : decode cX3_begin 33 = .ok (.lconst 0, 1) := by decide +kernel
theorem dX3_begin_34 : decode cX3_begin 34 = .ok (.lastore, 1) := by decide +kernel
theorem dX3_begin_35 : decode cX3_begin 35 = .ok (.aload_n 0, 1) := by decide +kernel
theorem dX3_begin_36 : decode cX3_begin 36 = .ok (.getfield 27, 3) := by decide +kernel
theorem dX3_begin_39 : decode cX3_begin 39 = .ok (.iload_n 1, 1) := by decide +kernel
theorem dX3_begin_40 : decode cX3_begin 40 = .ok (.bipush 52, 2) := by decide +kernel
theorem dX3_begin_42 : decode cX3_begin 42 = .ok (.invokestatic 58, 3) := by decide +kernel
theorem dX3_begin_45 : decode cX3_begin 45 = .ok (.bipush 52, 2) := by decide +kernel
theorem dX3_begin_47 : decode cX3_begin 47 = .ok (.invokestatic 62, 3) := by decide +kernel
theorem dX3_begin_50 : decode cX3_begin 50 = .ok (.lor, 1) := by decide +kernel
theorem dX3_begin_51 : decode cX3_begin 51 = .ok (.lastore, 1) := by decide +kernel
theorem dX3_begin_52 : decode cX3_begin 52 = .ok (.aload_n 0, 1) := by decide +kernel
theorem dX3_begin_53 : decode cX3_begin 53 = .ok (.getfield 30, 3) := by decide +kernel
theorem dX3_begin_56 : decode cX3_begin 56 = .ok (.iload_n 1, 1) := by decide +kernel
theorem dX3_begin_57 : decode cX3_begin 57 = .ok (.bipush 52, 2) := by decide +kernel
theorem dX3_begin_59 : decode cX3_begin 59 = .ok (.invokestatic 58, 3) := by decide +kernel
theorem dX3_begin_62 : decode cX3_begin 62 = .ok (.lastore, 1) := by decide +kernel
theorem dX3_begin_63 : decode cX3_begin 63 = .ok (.return_, 1) := by decide +kernel
theorem dX3_sign_0 : decode cX3_sign 0 = .ok (.iload_n 0, 1) := by decide +kernel
theorem dX3_sign_1 : decode cX3_sign 1 = .ok (.bipush 52, 2) := by decide +kernel
theorem dX3_sign_3 : decode cX3_sign 3 = .ok (.if_icmp .ne 9, 3) := by decide +kernel
theorem dX3_sign_6 : decode cX3_sign 6 = .ok (.ldc2_w 65, 3) := by decide +kernel
theorem dX3_sign_9 : decode cX3_sign 9 = .ok (.goto 6, 3) := by decide +kernel
theorem dX3_sign_12 : decode cX3_sign 12 = .ok (.ldc2_w 67, 3) := by decide +kernel
theorem dX3_sign_15 : decode cX3_sign 15 = .ok (.lreturn, 1) := by decide +kernel
theorem dX3_bias_0 : decode cX3_bias 0 = .ok (.iload_n 0, 1) := by decide +kernel
theorem dX3_bias_1 : decode cX3_bias 1 = .ok (.bipush 52, 2) := by decide +kernel
theorem dX3_bias_3 : decode cX3_bias 3 = .ok (.if_icmp .ne 9, 3) := by decide +kernel
theorem dX3_bias_6 : decode cX3_bias 6 = .ok (.ldc2_w 69, 3) := by decide +kernel
theorem dX3_bias_9 : decode cX3_bias 9 = .ok (.goto 6, 3) := by decide +kernel
theorem dX3_bias_12 : decode cX3_bias 12 = .ok (.ldc2_w 71, 3) := by decide +kernel
theorem dX3_bias_15 : decode cX3_bias 15 = .ok (.lreturn, 1) := by decide +kernel
set_option maxRecDepth 20000 in
theorem ggX3_one_X3_bias : GoodIn wsX3_one wsX3_bias := goodIn_r _ [4, 5, 6] (by decide +kernel) (by decide +kernel)
set_option maxRecDepth 20000 in
theorem gX3_one_X3_bias : GoodIn wsX3_one (va_wsS RX3 73 yX3_bias wsX3_bias) := goodIn_app (goodIn_of _ (by decide +kernel)) ggX3_one_X3_bias
theorem dX3_one_0 : decode cX3_one 0 = .ok (.iload_n 0, 1) := by decide +kernel
theorem dX3_one_1 : decode cX3_one 1 = .ok (.invokestatic 73, 3) := by decide +kernel
theorem dX3_one_4 : decode cX3_one 4 = .ok (.iload_n 0, 1) := by decide +kernel
theorem dX3_one_5 : decode cX3_one 5 = .ok (.lshl, 1) := by decide +kernel
theorem dX3_one_6 : decode cX3_one 6 = .ok (.lreturn, 1) := by decide +kernel
set_option maxRecDepth 20000 in
theorem ggX3_endless_X3_bias : GoodIn wsX3_endless wsX3_bias := goodIn_r _ [5, 6, 7] (by decide +kernel) (by decide +kernel)
set_option maxRecDepth 20000 in
theorem gX3_endless_X3_bias : GoodIn wsX3_endless (va_wsS RX3 73 yX3_bias wsX3_bias) := goodIn_app (goodIn_of _ (by decide +kernel)) ggX3_endless_X3_bias
theorem dX3_endless_0 : decode cX3_endless 0 = .ok (.ldc2_w 76, 3) := by decide +kernel
theorem dX3_endless_3 : decode cX3_endless 3 = .ok (.iload_n 0, 1) := by decide +kernel
theorem dX3_endless_4 : decode cX3_endless 4 = .ok (.invokestatic 73, 3) := by decide +kernel
theorem dX3_endless_7 : decode cX3_endless 7 = .ok (.lmul, 1) := by decide +kernel
theorem dX3_endless_8 : decode cX3_endless 8 = .ok (.lconst 1, 1) := by decide +kernel
theorem dX3_endless_9 : decode cX3_endless 9 = .ok (.ladd, 1) := by decide +kernel
theorem dX3_endless_10 : decode cX3_endless 10 = .ok (.iload_n 0, 1) := by decide +kernel
theorem dX3_endless_11 : decode cX3_endless 11 = .ok (.lshl, 1) := by decide +kernel
theorem dX3_endless_12 : decode cX3_endless 12 = .ok (.lreturn, 1) := by decide +kernel
set_option maxRecDepth 20000 in
theorem ggX3_amount_X3_sign : GoodIn wsX3_amount wsX3_sign := goodIn_r _ [5, 6, 7] (by decide +kernel) (by decide +kernel)
set_option maxRecDepth 20000 in
theorem gX3_amount_X3_sign : GoodIn wsX3_amount (va_wsS RX3 62 yX3_sign wsX3_sign) := goodIn_app (goodIn_of _ (by decide +kernel)) ggX3_amount_X3_sign
theorem dX3_amount_0 : decode cX3_amount 0 = .ok (.lload_n 0, 1) := by decide +kernel
theorem dX3_amount_1 : decode cX3_amount 1 = .ok (.iload_n 2, 1) := by decide +kernel
theorem dX3_amount_2 : decode cX3_amount 2 = .ok (.invokestatic 62, 3) := by decide +kernel
theorem dX3_amount_5 : decode cX3_amount 5 = .ok (.ldc2_w 78, 3) := by decide +kernel
theorem dX3_amount_8 : decode cX3_amount 8 = .ok (.lxor, 1) := by decide +kernel
theorem dX3_amount_9 : decode cX3_amount 9 = .ok (.land, 1) := by decide +kernel
theorem dX3_amount_10 : decode cX3_amount 10 = .ok (.lreturn, 1) := by decide +kernel
set_option maxRecDepth 20000 in
theorem ggX3_isBelow_X3_sign : GoodIn wsX3_isBelow wsX3_sign := goodIn_r _ [4, 5, 6] (by decide +kernel) (by decide +kernel)
set_option maxRecDepth 20000 in
theorem gX3_isBelow_X3_sign : GoodIn wsX3_isBelow (va_wsS RX3 62 yX3_sign wsX3_sign) := goodIn_app (goodIn_of _ (by decide +kernel)) ggX3_isBelow_X3_sign
theorem dX3_isBelow_0 : decode cX3_isBelow 0 = .ok (.lload_n 0, 1) := by decide +kernel
theorem dX3_isBelow_1 : decode cX3_isBelow 1 = .ok (.iload_n 2, 1) := by decide +kernel
theorem dX3_isBelow_2 : decode cX3_isBelow 2 = .ok (.invokestatic 62, 3) := by decide +kernel
theorem dX3_isBelow_5 : decode cX3_isBelow 5 = .ok (.land, 1) := by decide +kernel
theorem dX3_isBelow_6 : decode cX3_isBelow 6 = .ok (.lconst 0, 1) := by decide +kernel
theorem dX3_isBelow_7 : decode cX3_isBelow 7 = .ok (.lcmp, 1) := by decide +kernel
theorem dX3_isBelow_8 : decode cX3_isBelow 8 = .ok (.ifCond .eq 7, 3) := by decide +kernel
theorem dX3_isBelow_11 : decode cX3_isBelow 11 = .ok (.iconst 1, 1) := by decide +kernel
theorem dX3_isBelow_12 : decode cX3_isBelow 12 = .ok (.goto 4, 3) := by decide +kernel
theorem dX3_isBelow_15 : decode cX3_isBelow 15 = .ok (.iconst 0, 1) := by decide +kernel
theorem dX3_isBelow_16 : decode cX3_isBelow 16 = .ok (.ireturn, 1) := by decide +kernel
set_option maxRecDepth 20000 in
theorem ggX3_isNumber_X3_amount : GoodIn wsX3_isNumber wsX3_amount := goodIn_r _ [4, 5, 6, 7, 3, 8, 9, 10] (by decide +kernel) (by decide +kernel)
set_option maxRecDepth 20000 in
theorem gX3_isNumber_X3_amount : GoodIn wsX3_isNumber (va_wsS RX3 80 yX3_amount wsX3_amount) := goodIn_app (goodIn_of _ (by decide +kernel)) ggX3_isNumber_X3_amount
set_option maxRecDepth 20000 in
theorem ggX3_isNumber_X3_endless : GoodIn wsX3_isNumber wsX3_endless := goodIn_r _ [13, 14, 15, 16, 3, 17, 18, 19] (by decide +kernel) (by decide +kernel)
set_option maxRecDepth 20000 in
theorem gX3_isNumber_X3_endless : GoodIn wsX3_isNumber (va_wsS RX3 58 yX3_endless wsX3_endless) := goodIn_app (goodIn_of _ (by decide +kernel)) ggX3_isNumber_X3_endless
theorem dX3_isNumber_0 : decode cX3_isNumber 0 = .ok (.lload_n 0, 1) := by decide +kernel
theorem dX3_isNumber_1 : decode cX3_isNumber 1 = .ok (.iload_n 2, 1) := by decide +kernel
theorem dX3_isNumber_2 : decode cX3_isNumber 2 = .ok (.invokestatic 80, 3) := by decide +kernel
theorem dX3_isNumber_5 : decode cX3_isNumber 5 = .ok (.iload_n 2, 1) := by decide +kernel
theorem dX3_isNumber_6 : decode cX3_isNumber 6 = .ok (.invokestatic 58, 3) := by decide +kernel
theorem dX3_isNumber_9 : decode cX3_isNumber 9 = .ok (.lcmp, 1) := by decide +kernel
theorem dX3_isNumber_10 : decode cX3_isNumber 10 = .ok (.ifCond .gt 7, 3) := by decide +kernel
theorem dX3_isNumber_13 : decode cX3_isNumber 13 = .ok (.iconst 1, 1) := by decide +kernel
theorem dX3_isNumber_14 : decode cX3_isNumber 14 = .ok (.goto 4, 3) := by decide +kernel
theorem dX3_isNumber_17 : decode cX3_isNumber 17 = .ok (.iconst 0, 1) := by decide +kernel
theorem dX3_isNumber_18 : decode cX3_isNumber 18 = .ok (.ireturn, 1) := by decide +kernel
set_option maxRecDepth 20000 in
theorem ggX3_down_X3_amount : GoodIn wsX3_down wsX3_amount := goodIn_r _ [5, 1, 6, 7, 4, 8, 9, 10] (by decide +kernel) (by decide +kernel)
set_option maxRecDepth 20000 in
theorem gX3_down_X3_amount : GoodIn wsX3_down (va_wsS RX3 80 yX3_amount wsX3_amount) := goodIn_app (goodIn_of _ (by decide +kernel)) ggX3_down_X3_amount
set_option maxRecDepth 20000 in
theorem ggX3_down_X3_bias : GoodIn wsX3_down wsX3_bias := goodIn_r _ [13, 14, 15] (by decide +kernel) (by decide +kernel)
set_option maxRecDepth 20000 in
theorem gX3_down_X3_bias : GoodIn wsX3_down (va_wsS RX3 73 yX3_bias wsX3_bias) := goodIn_app (goodIn_of _ (by decide +kernel)) ggX3_down_X3_bias
set_option maxRecDepth 20000 in
theorem ggX3_down_X3_one : GoodIn wsX3_down wsX3_one := goodIn_r _ [18, 11, 12, 4, 13, 14, 15] (by decide +kernel) (by decide +kernel)
set_option maxRecDepth 20000 in
theorem gX3_down_X3_one : GoodIn wsX3_down (va_wsS RX3 84 yX3_one wsX3_one) := goodIn_app (goodIn_of _ (by decide +kernel)) ggX3_down_X3_one
set_option maxRecDepth 20000 in
theorem ggX3_down_X3_isBelow : GoodIn wsX3_down wsX3_isBelow := goodIn_r _ [21, 6, 7, 4, 8, 9, 10] (by decide +kernel) (by decide +kernel)
set_option maxRecDepth 20000 in
theorem gX3_down_X3_isBelow : GoodIn wsX3_down (va_wsS RX3 87 yX3_isBelow wsX3_isBelow) := goodIn_app (goodIn_of _ (by decide +kernel)) ggX3_down_X3_isBelow
set_option maxRecDepth 20000 in
theorem ggX3_down_X3_sign : GoodIn wsX3_down wsX3_sign := goodIn_r _ [8, 9, 10] (by decide +kernel) (by decide +kernel)
set_option maxRecDepth 20000 in
theorem gX3_down_X3_sign : GoodIn wsX3_down (va_wsS RX3 62 yX3_sign wsX3_sign) := goodIn_app (goodIn_of _ (by decide +kernel)) ggX3_down_X3_sign
theorem dX3_down_0 : decode cX3_down 0 = .ok (.lload_n 0, 1) := by decide +kernel
theorem dX3_down_1 : decode cX3_down 1 = .ok (.iload_n 2, 1) := by decide +kernel
theorem dX3_down_2 : decode cX3_down 2 = .ok (.invokestatic 80, 3) := by decide +kernel
theorem dX3_down_5 : decode cX3_down 5 = .ok (.lstore_n 3, 1) := by decide +kernel
theorem dX3_down_6 : decode cX3_down 6 = .ok (.lload_n 3, 1) := by decide +kernel
theorem dX3_down_7 : decode cX3_down 7 = .ok (.lconst 0, 1) := by decide +kernel
theorem dX3_down_8 : decode cX3_down 8 = .ok (.lcmp, 1) := by decide +kernel
theorem dX3_down_9 : decode cX3_down 9 = .ok (.ifCond .eq 17, 3) := by decide +kernel
theorem dX3_down_12 : decode cX3_down 12 = .ok (.lload_n 3, 1) := by decide +kernel
theorem dX3_down_13 : decode cX3_down 13 = .ok (.iload_n 2, 1) := by decide +kernel
theorem dX3_down_14 : decode cX3_down 14 = .ok (.invokestatic 73, 3) := by decide +kernel
theorem dX3_down_17 : decode cX3_down 17 = .ok (.iload_n 2, 1) := by decide +kernel
theorem dX3_down_18 : decode cX3_down 18 = .ok (.i2l, 1) := by decide +kernel
theorem dX3_down_19 : decode cX3_down 19 = .ok (.ladd, 1) := by decide +kernel
theorem dX3_down_20 : decode cX3_down 20 = .ok (.iload_n 2, 1) := by decide +kernel
theorem dX3_down_21 : decode cX3_down 21 = .ok (.lshl, 1) := by decide +kernel
theorem dX3_down_22 : decode cX3_down 22 = .ok (.lcmp, 1) := by decide +kernel
theorem dX3_down_23 : decode cX3_down 23 = .ok (.ifCond .lt 5, 3) := by decide +kernel
theorem dX3_down_26 : decode cX3_down 26 = .ok (.lload_n 0, 1) := by decide +kernel
theorem dX3_down_27 : decode cX3_down 27 = .ok (.lreturn, 1) := by decide +kernel
theorem dX3_down_28 : decode cX3_down 28 = .ok (.lload_n 3, 1) := by decide +kernel
theorem dX3_down_29 : decode cX3_down 29 = .ok (.iload_n 2, 1) := by decide +kernel
theorem dX3_down_30 : decode cX3_down 30 = .ok (.invokestatic 84, 3) := by decide +kernel
theorem dX3_down_33 : decode cX3_down 33 = .ok (.lcmp, 1) := by decide +kernel
theorem dX3_down_34 : decode cX3_down 34 = .ok (.ifCond .ge 25, 3) := by decide +kernel
theorem dX3_down_37 : decode cX3_down 37 = .ok (.lload_n 0, 1) := by decide +kernel
theorem dX3_down_38 : decode cX3_down 38 = .ok (.iload_n 2, 1) := by decide +kernel
theorem dX3_down_39 : decode cX3_down 39 = .ok (.invokestatic 87, 3) := by decide +kernel
theorem dX3_down_42 : decode cX3_down 42 = .ok (.ifCond .eq 15, 3) := by decide +kernel
theorem dX3_down_45 : decode cX3_down 45 = .ok (.iload_n 2, 1) := by decide +kernel
theorem dX3_down_46 : decode cX3_down 46 = .ok (.invokestatic 62, 3) := by decide +kernel
theorem dX3_down_49 : decode cX3_down 49 = .ok (.iload_n 2, 1) := by decide +kernel
theorem dX3_down_50 : decode cX3_down 50 = .ok (.invokestatic 84, 3) := by decide +kernel
theorem dX3_down_53 : decode cX3_down 53 = .ok (.lor, 1) := by decide +kernel
theorem dX3_down_54 : decode cX3_down 54 = .ok (.goto 4, 3) := by decide +kernel
theorem dX3_down_57 : decode cX3_down 57 = .ok (.lconst 0, 1) := by decide +kernel
theorem dX3_down_58 : decode cX3_down 58 = .ok (.lreturn, 1) := by decide +kernel
theorem dX3_down_59 : decode cX3_down 59 = .ok (.lconst 1, 1) := by decide +kernel
theorem dX3_down_60 : decode cX3_down 60 = .ok (.iload_n 2, 1) := by decide +kernel
theorem dX3_down_61 : decode cX3_down 61 = .ok (.lload_n 3, 1) := by decide +kernel
theorem dX3_down_62 : decode cX3_down 62 = .ok (.iload_n 2, 1) := by decide +kernel
theorem dX3_down_63 : decode cX3_down 63 = .ok (.lshr, 1) := by decide +kernel
theorem dX3_down_64 : decode cX3_down 64 = .ok (.iload_n 2, 1) := by decide +kernel
theorem dX3_down_65 : decode cX3_down 65 = .ok (.invokestatic 73, 3) := by decide +kernel
theorem dX3_down_68 : decode cX3_down 68 = .ok (.lsub, 1) := by decide +kernel
theorem dX3_down_69 : decode cX3_down 69 = .ok (.l2i, 1) := by decide +kernel
theorem dX3_down_70 : decode cX3_down 70 = .ok (.isub, 1) := by decide +kernel
theorem dX3_down_71 : decode cX3_down 71 = .ok (.lshl, 1) := by decide +kernel
theorem dX3_down_72 : decode cX3_down 72 = .ok (.lconst 1, 1) := by decide +kernel
theorem dX3_down_73 : decode cX3_down 73 = .ok (.lsub, 1) := by decide +kernel
theorem dX3_down_74 : decode cX3_down 74 = .ok (.lstore 5, 2) := by decide +kernel
theorem dX3_down_76 : decode cX3_down 76 = .ok (.lload_n 0, 1) := by decide +kernel
theorem dX3_down_77 : decode cX3_down 77 = .ok (.iload_n 2, 1) := by decide +kernel
theorem dX3_down_78 : decode cX3_down 78 = .ok (.invokestatic 87, 3) := by decide +kernel
theorem dX3_down_81 : decode cX3_down 81 = .ok (.ifCond .eq 22, 3) := by decide +kernel
theorem dX3_down_84 : decode cX3_down 84 = .ok (.iload_n 2, 1) := by decide +kernel
theorem dX3_down_85 : decode cX3_down 85 = .ok (.invokestatic 62, 3) := by decide +kernel
theorem dX3_down_88 : decode cX3_down 88 = .ok (.lload_n 3, 1) := by decide +kernel
theorem dX3_down_89 : decode cX3_down 89 = .ok (.lload 5, 2) := by decide +kernel
theorem dX3_down_91 : decode cX3_down 91 = .ok (.ladd, 1) := by decide +kernel
theorem dX3_down_92 : decode cX3_down 92 = .ok (.lload 5, 2) := by decide +kernel
theorem dX3_down_94 : decode cX3_down 94 = .ok (.ldc2_w 78, 3) := by decide +kernel
theorem dX3_down_97 : decode cX3_down 97 = .ok (.lxor, 1) := by decide +kernel
theorem dX3_down_98 : decode cX3_down 98 = .ok (.land, 1) := by decide +kernel
theorem dX3_down_99 : decode cX3_down 99 = .ok (.lor, 1) := by decide +kernel
theorem dX3_down_100 : decode cX3_down 100 = .ok (.goto 11, 3) := by decide +kernel
theorem dX3_down_103 : decode cX3_down 103 = .ok (.lload_n 3, 1) := by decide +kernel
theorem dX3_down_104 : decode cX3_down 104 = .ok (.lload 5, 2) := by decide +kernel
theorem dX3_down_106 : decode cX3_down 106 = .ok (.ldc2_w 78, 3) := by decide +kernel
theorem dX3_down_109 : decode cX3_down 109 = .ok (.lxor, 1) := by decide +kernel
theorem dX3_down_110 : decode cX3_down 110 = .ok (.land, 1) := by decide +kernel
theorem dX3_down_111 : decode cX3_down 111 = .ok (.lreturn, 1) := by decide +kernel
set_option maxRecDepth 20000 in
theorem ggX3_up_X3_sign : GoodIn wsX3_up wsX3_sign := goodIn_r _ [4, 5, 6] (by decide +kernel) (by decide +kernel)
set_option maxRecDepth 20000 in
theorem gX3_up_X3_sign : GoodIn wsX3_up (va_wsS RX3 62 yX3_sign wsX3_sign) := goodIn_app (goodIn_of _ (by decide +kernel)) ggX3_up_X3_sign
set_option maxRecDepth 20000 in
theorem ggX3_up_X3_down : GoodIn wsX3_up wsX3_down := goodIn_r _ [9, 10, 11, 12, 3, 13, 1, 2, 4, 5, 6, 14, 15, 16, 17, 18, 19, 20, 21, 22, 23, 24] (by decide +kernel) (by decide +kernel)
set_option maxRecDepth 20000 in
theorem gX3_up_X3_down : GoodIn wsX3_up (va_wsS RX3 91 yX3_down wsX3_down) := goodIn_app (goodIn_of _ (by decide +kernel)) ggX3_up_X3_down
theorem dX3_up_0 : decode cX3_up 0 = .ok (.lload_n 0, 1) := by decide +kernel
theorem dX3_up_1 : decode cX3_up 1 = .ok (.iload_n 2, 1) := by decide +kernel
theorem dX3_up_2 : decode cX3_up 2 = .ok (.invokestatic 62, 3) := by decide +kernel
theorem dX3_up_5 : decode cX3_up 5 = .ok (.lxor, 1) := by decide +kernel
theorem dX3_up_6 : decode cX3_up 6 = .ok (.iload_n 2, 1) := by decide +kernel
theorem dX3_up_7 : decode cX3_up 7 = .ok (.invokestatic 91, 3) := by decide +kernel
theorem dX3_up_10 : decode cX3_up 10 = .ok (.iload_n 2, 1) := by decide +kernel
theorem dX3_up_11 : decode cX3_up 11 = .ok (.invokestatic 62, 3) := by decide +kernel
theorem dX3_up_14 : decode cX3_up 14 = .ok (.lxor, 1) := by decide +kernel
theorem dX3_up_15 : decode cX3_up 15 = .ok (.lreturn, 1) := by decide +kernel
set_option maxRecDepth 20000 in
theorem ggX3_near_X3_amount : GoodIn wsX3_near wsX3_amount := goodIn_r _ [6, 1, 7, 8, 5, 9, 10, 11] (by decide +kernel) (by decide +kernel)
set_option maxRecDepth 20000 in
theorem gX3_near_X3_amount : GoodIn wsX3_near (va_wsS RX3 80 yX3_amount wsX3_amount) := goodIn_app (goodIn_of _ (by decide +kernel)) ggX3_near_X3_amount
set_option maxRecDepth 20000 in
theorem ggX3_near_X3_sign : GoodIn wsX3_near wsX3_sign := goodIn_r _ [9, 10, 11] (by decide +kernel) (by decide +kernel)
set_option maxRecDepth 20000 in
theorem gX3_near_X3_sign : GoodIn wsX3_near (va_wsS RX3 62 yX3_sign wsX3_sign) := goodIn_app (goodIn_of _ (by decide +kernel)) ggX3_near_X3_sign
set_option maxRecDepth 20000 in
theorem ggX3_near_X3_bias : GoodIn wsX3_near wsX3_bias := goodIn_r _ [14, 15, 16] (by decide +kernel) (by decide +kernel)
set_option maxRecDepth 20000 in
theorem gX3_near_X3_bias : GoodIn wsX3_near (va_wsS RX3 73 yX3_bias wsX3_bias) := goodIn_app (goodIn_of _ (by decide +kernel)) ggX3_near_X3_bias
set_option maxRecDepth 20000 in
theorem ggX3_near_X3_one : GoodIn wsX3_near wsX3_one := goodIn_r _ [19, 12, 13, 5, 14, 15, 16] (by decide +kernel) (by decide +kernel)
set_option maxRecDepth 20000 in
theorem gX3_near_X3_one : GoodIn wsX3_near (va_wsS RX3 84 yX3_one wsX3_one) := goodIn_app (goodIn_of _ (by decide +kernel)) ggX3_near_X3_one
theorem dX3_near_0 : decode cX3_near 0 = .ok (.lload_n 0, 1) := by decide +kernel
theorem dX3_near_1 : decode cX3_near 1 = .ok (.iload_n 2, 1) := by decide +kernel
theorem dX3_near_2 : decode cX3_near 2 = .ok (.invokestatic 80, 3) := by decide +kernel
theorem dX3_near_5 : decode cX3_near 5 = .ok (.lstore_n 3, 1) := by decide +kernel
theorem dX3_near_6 : decode cX3_near 6 = .ok (.lload_n 0, 1) := by decide +kernel
theorem dX3_near_7 : decode cX3_near 7 = .ok (.iload_n 2, 1) := by decide +kernel
theorem dX3_near_8 : decode cX3_near 8 = .ok (.invokestatic 62, 3) := by decide +kernel
theorem dX3_near_11 : decode cX3_near 11 = .ok (.land, 1) := by decide +kernel
theorem dX3_near_12 : decode cX3_near 12 = .ok (.lstore 5, 2) := by decide +kernel
theorem dX3_near_14 : decode cX3_near 14 = .ok (.lload_n 3, 1) := by decide +kernel
theorem dX3_near_15 : decode cX3_near 15 = .ok (.iload_n 2, 1) := by decide +kernel
theorem dX3_near_16 : decode cX3_near 16 = .ok (.invokestatic 73, 3) := by decide +kernel
theorem dX3_near_19 : decode cX3_near 19 = .ok (.iload_n 2, 1) := by decide +kernel
theorem dX3_near_20 : decode cX3_near 20 = .ok (.i2l, 1) := by decide +kernel
theorem dX3_near_21 : decode cX3_near 21 = .ok (.ladd, 1) := by decide +kernel
theorem dX3_near_22 : decode cX3_near 22 = .ok (.iload_n 2, 1) := by decide +kernel
theorem dX3_near_23 : decode cX3_near 23 = .ok (.lshl, 1) := by decide +kernel
theorem dX3_near_24 : decode cX3_near 24 = .ok (.lcmp, 1) := by decide +kernel
theorem dX3_near_25 : decode cX3_near 25 = .ok (.ifCond .lt 5, 3) := by decide +kernel
theorem dX3_near_28 : decode cX3_near 28 = .ok (.lload_n 0, 1) := by decide +kernel
theorem dX3_near_29 : decode cX3_near 29 = .ok (.lreturn, 1) := by decide +kernel
theorem dX3_near_30 : decode cX3_near 30 = .ok (.lload_n 3, 1) := by decide +kernel
theorem dX3_near_31 : decode cX3_near 31 = .ok (.iload_n 2, 1) := by decide +kernel
theorem dX3_near_32 : decode cX3_near 32 = .ok (.invokestatic 84, 3) := by decide +kernel
theorem dX3_near_35 : decode cX3_near 35 = .ok (.lcmp, 1) := by decide +kernel
theorem dX3_near_36 : decode cX3_near 36 = .ok (.ifCond .ge 29, 3) := by decide +kernel
theorem dX3_near_39 : decode cX3_near 39 = .ok (.lload_n 3, 1) := by decide +kernel
theorem dX3_near_40 : decode cX3_near 40 = .ok (.iload_n 2, 1) := by decide +kernel
theorem dX3_near_41 : decode cX3_near 41 = .ok (.invokestatic 84, 3) := by decide +kernel
theorem dX3_near_44 : decode cX3_near 44 = .ok (.lconst 1, 1) := by decide +kernel
theorem dX3_near_45 : decode cX3_near 45 = .ok (.iload_n 2, 1) := by decide +kernel
theorem dX3_near_46 : decode cX3_near 46 = .ok (.lshl, 1) := by decide +kernel
theorem dX3_near_47 : decode cX3_near 47 = .ok (.lsub, 1) := by decide +kernel
theorem dX3_near_48 : decode cX3_near 48 = .ok (.lcmp, 1) := by decide +kernel
theorem dX3_near_49 : decode cX3_near 49 = .ok (.ifCond .le 13, 3) := by decide +kernel
theorem dX3_near_52 : decode cX3_near 52 = .ok (.lload 5, 2) := by decide +kernel
theorem dX3_near_54 : decode cX3_near 54 = .ok (.iload_n 2, 1) := by decide +kernel
theorem dX3_near_55 : decode cX3_near 55 = .ok (.invokestatic 84, 3) := by decide +kernel
theorem dX3_near_58 : decode cX3_near 58 = .ok (.lor, 1) := by decide +kernel
theorem dX3_near_59 : decode cX3_near 59 = .ok (.goto 5, 3) := by decide +kernel
theorem dX3_near_62 : decode cX3_near 62 = .ok (.lload 5, 2) := by decide +kernel
theorem dX3_near_64 : decode cX3_near 64 = .ok (.lreturn, 1) := by decide +kernel
theorem dX3_near_65 : decode cX3_near 65 = .ok (.lconst 1, 1) := by decide +kernel
theorem dX3_near_66 : decode cX3_near 66 = .ok (.iload_n 2, 1) := by decide +kernel
theorem dX3_near_67 : decode cX3_near 67 = .ok (.lload_n 3, 1) := by decide +kernel
theorem dX3_near_68 : decode cX3_near 68 = .ok (.iload_n 2, 1) := by decide +kernel
theorem dX3_near_69 : decode cX3_near 69 = .ok (.lshr, 1) := by decide +kernel
theorem dX3_near_70 : decode cX3_near 70 = .ok (.iload_n 2, 1) := by decide +kernel
theorem dX3_near_71 : decode cX3_near 71 = .ok (.invokestatic 73, 3) := by decide +kernel
theorem dX3_near_74 : decode cX3_near 74 = .ok (.lsub, 1) := by decide +kernel
theorem dX3_near_75 : decode cX3_near 75 = .ok (.l2i, 1) := by decide +kernel
theorem dX3_near_76 : decode cX3_near 76 = .ok (.isub, 1) := by decide +kernel
theorem dX3_near_77 : decode cX3_near 77 = .ok (.lshl, 1) := by decide +kernel
theorem dX3_near_78 : decode cX3_near 78 = .ok (.lconst 1, 1) := by decide +kernel
theorem dX3_near_79 : decode cX3_near 79 = .ok (.lsub, 1) := by decide +kernel
theorem dX3_near_80 : decode cX3_near 80 = .ok (.lstore 7, 2) := by decide +kernel
theorem dX3_near_82 : decode cX3_near 82 = .ok (.lload_n 3, 1) := by decide +kernel
theorem dX3_near_83 : decode cX3_near 83 = .ok (.lload 7, 2) := by decide +kernel
theorem dX3_near_85 : decode cX3_near 85 = .ok (.ldc2_w 78, 3) := by decide +kernel
theorem dX3_near_88 : decode cX3_near 88 = .ok (.lxor, 1) := by decide +kernel
theorem dX3_near_89 : decode cX3_near 89 = .ok (.land, 1) := by decide +kernel
theorem dX3_near_90 : decode cX3_near 90 = .ok (.lstore 9, 2) := by decide +kernel
theorem dX3_near_92 : decode cX3_near 92 = .ok (.ldc2_w 76, 3) := by decide +kernel
theorem dX3_near_95 : decode cX3_near 95 = .ok (.lload_n 3, 1) := by decide +kernel
theorem dX3_near_96 : decode cX3_near 96 = .ok (.lload 7, 2) := by decide +kernel
theorem dX3_near_98 : decode cX3_near 98 = .ok (.land, 1) := by decide +kernel
theorem dX3_near_99 : decode cX3_near 99 = .ok (.lmul, 1) := by decide +kernel
theorem dX3_near_100 : decode cX3_near 100 = .ok (.lstore 11, 2) := by decide +kernel
theorem dX3_near_102 : decode cX3_near 102 = .ok (.lload 9, 2) := by decide +kernel
theorem dX3_near_104 : decode cX3_near 104 = .ok (.lload 7, 2) := by decide +kernel
theorem dX3_near_106 : decode cX3_near 106 = .ok (.lconst 1, 1) := by decide +kernel
theorem dX3_near_107 : decode cX3_near 107 = .ok (.ladd, 1) := by decide +kernel
theorem dX3_near_108 : decode cX3_near 108 = .ok (.land, 1) := by decide +kernel
theorem dX3_near_109 : decode cX3_near 109 = .ok (.lconst 0, 1) := by decide +kernel
theorem dX3_near_110 : decode cX3_near 110 = .ok (.lcmp, 1) := by decide +kernel
theorem dX3_near_111 : decode cX3_near 111 = .ok (.ifCond .eq 7, 3) := by decide +kernel
theorem dX3_near_114 : decode cX3_near 114 = .ok (.iconst 1, 1) := by decide +kernel
theorem dX3_near_115 : decode cX3_near 115 = .ok (.goto 4, 3) := by decide +kernel
theorem dX3_near_118 : decode cX3_near 118 = .ok (.iconst 0, 1) := by decide +kernel
theorem dX3_near_119 : decode cX3_near 119 = .ok (.istore 13, 2) := by decide +kernel
theorem dX3_near_121 : decode cX3_near 121 = .ok (.lload 11, 2) := by decide +kernel
theorem dX3_near_123 : decode cX3_near 123 = .ok (.lload 7, 2) := by decide +kernel
theorem dX3_near_125 : decode cX3_near 125 = .ok (.lconst 1, 1) := by decide +kernel
theorem dX3_near_126 : decode cX3_near 126 = .ok (.ladd, 1) := by decide +kernel
theorem dX3_near_127 : decode cX3_near 127 = .ok (.lcmp, 1) := by decide +kernel
theorem dX3_near_128 : decode cX3_near 128 = .ok (.ifCond .gt 18, 3) := by decide +kernel
theorem dX3_near_131 : decode cX3_near 131 = .ok (.lload 11, 2) := by decide +kernel
theorem dX3_near_133 : decode cX3_near 133 = .ok (.lload 7, 2) := by decide +kernel
theorem dX3_near_135 : decode cX3_near 135 = .ok (.lconst 1, 1) := by decide +kernel
theorem dX3_near_136 : decode cX3_near 136 = .ok (.ladd, 1) := by decide +kernel
theorem dX3_near_137 : decode cX3_near 137 = .ok (.lcmp, 1) := by decide +kernel
theorem dX3_near_138 : decode cX3_near 138 = .ok (.ifCond .ne 12, 3) := by decide +kernel
theorem dX3_near_141 : decode cX3_near 141 = .ok (.iload 13, 2) := by decide +kernel
theorem dX3_near_143 : decode cX3_near 143 = .ok (.ifCond .eq 7, 3) := by decide +kernel
theorem dX3_near_146 : decode cX3_near 146 = .ok (.iconst 1, 1) := by decide +kernel
theorem dX3_near_147 : decode cX3_near 147 = .ok (.goto 4, 3) := by decide +kernel
theorem dX3_near_150 : decode cX3_near 150 = .ok (.iconst 0, 1) := by decide +kernel
theorem dX3_near_151 : decode cX3_near 151 = .ok (.istore 14, 2) := by decide +kernel
theorem dX3_near_153 : decode cX3_near 153 = .ok (.lload 5, 2) := by decide +kernel
theorem dX3_near_155 : decode cX3_near 155 = .ok (.iload 14, 2) := by decide +kernel
theorem dX3_near_157 : decode cX3_near 157 = .ok (.ifCond .eq 13, 3) := by decide +kernel
theorem dX3_near_160 : decode cX3_near 160 = .ok (.lload 9, 2) := by decide +kernel
theorem dX3_near_162 : decode cX3_near 162 = .ok (.lload 7, 2) := by decide +kernel
theorem dX3_near_164 : decode cX3_near 164 = .ok (.ladd, 1) := by decide +kernel
theorem dX3_near_165 : decode cX3_near 165 = .ok (.lconst 1, 1) := by decide +kernel
theorem dX3_near_166 : decode cX3_near 166 = .ok (.ladd, 1) := by decide +kernel
theorem dX3_near_167 : decode cX3_near 167 = .ok (.goto 5, 3) := by decide +kernel
theorem dX3_near_170 : decode cX3_near 170 = .ok (.lload 9, 2) := by decide +kernel
theorem dX3_near_172 : decode cX3_near 172 = .ok (.lor, 1) := by decide +kernel
theorem dX3_near_173 : decode cX3_near 173 = .ok (.lreturn, 1) := by decide +kernel
set_option maxRecDepth 20000 in
theorem ggX3_half_X3_amount : GoodIn wsX3_half wsX3_amount := goodIn_r _ [4, 5, 6, 7, 3, 8, 9, 10] (by decide +kernel) (by decide +kernel)
set_option maxRecDepth 20000 in
theorem gX3_half_X3_amount : GoodIn wsX3_half (va_wsS RX3 80 yX3_amount wsX3_amount) := goodIn_app (goodIn_of _ (by decide +kernel)) ggX3_half_X3_amount
set_option maxRecDepth 20000 in
theorem ggX3_half_X3_endless : GoodIn wsX3_half wsX3_endless := goodIn_r _ [13, 14, 15, 16, 3, 17, 18, 19] (by decide +kernel) (by decide +kernel)
set_option maxRecDepth 20000 in
theorem gX3_half_X3_endless : GoodIn wsX3_half (va_wsS RX3 58 yX3_endless wsX3_endless) := goodIn_app (goodIn_of _ (by decide +kernel)) ggX3_half_X3_endless
set_option maxRecDepth 20000 in
theorem ggX3_half_X3_sign : GoodIn wsX3_half wsX3_sign := goodIn_r _ [8, 9, 10] (by decide +kernel) (by decide +kernel)
set_option maxRecDepth 20000 in
theorem gX3_half_X3_sign : GoodIn wsX3_half (va_wsS RX3 62 yX3_sign wsX3_sign) := goodIn_app (goodIn_of _ (by decide +kernel)) ggX3_half_X3_sign
theorem dX3_half_0 : decode cX3_half 0 = .ok (.lload_n 0, 1) := by decide +kernel
theorem dX3_half_1 : decode cX3_half 1 = .ok (.iload_n 2, 1) := by decide +kernel
theorem dX3_half_2 : decode cX3_half 2 = .ok (.invokestatic 80, 3) := by decide +kernel
theorem dX3_half_5 : decode cX3_half 5 = .ok (.lstore_n 3, 1) := by decide +kernel
theorem dX3_half_6 : decode cX3_half 6 = .ok (.lload_n 3, 1) := by decide +kernel
theorem dX3_half_7 : decode cX3_half 7 = .ok (.iload_n 2, 1) := by decide +kernel
theorem dX3_half_8 : decode cX3_half 8 = .ok (.invokestatic 58, 3) := by decide +kernel
theorem dX3_half_11 : decode cX3_half 11 = .ok (.lcmp, 1) := by decide +kernel
theorem dX3_half_12 : decode cX3_half 12 = .ok (.ifCond .ne 5, 3) := by decide +kernel
theorem dX3_half_15 : decode cX3_half 15 = .ok (.lload_n 0, 1) := by decide +kernel
theorem dX3_half_16 : decode cX3_half 16 = .ok (.lreturn, 1) := by decide +kernel
theorem dX3_half_17 : decode cX3_half 17 = .ok (.lload_n 3, 1) := by decide +kernel
theorem dX3_half_18 : decode cX3_half 18 = .ok (.iload_n 2, 1) := by decide +kernel
theorem dX3_half_19 : decode cX3_half 19 = .ok (.lshr, 1) := by decide +kernel
theorem dX3_half_20 : decode cX3_half 20 = .ok (.lconst 1, 1) := by decide +kernel
theorem dX3_half_21 : decode cX3_half 21 = .ok (.lcmp, 1) := by decide +kernel
theorem dX3_half_22 : decode cX3_half 22 = .ok (.ifCond .le 9, 3) := by decide +kernel
theorem dX3_half_25 : decode cX3_half 25 = .ok (.lload_n 0, 1) := by decide +kernel
theorem dX3_half_26 : decode cX3_half 26 = .ok (.lconst 1, 1) := by decide +kernel
theorem dX3_half_27 : decode cX3_half 27 = .ok (.iload_n 2, 1) := by decide +kernel
theorem dX3_half_28 : decode cX3_half 28 = .ok (.lshl, 1) := by decide +kernel
theorem dX3_half_29 : decode cX3_half 29 = .ok (.lsub, 1) := by decide +kernel
theorem dX3_half_30 : decode cX3_half 30 = .ok (.lreturn, 1) := by decide +kernel
theorem dX3_half_31 : decode cX3_half 31 = .ok (.lload_n 3, 1) := by decide +kernel
theorem dX3_half_32 : decode cX3_half 32 = .ok (.iconst 1, 1) := by decide +kernel
theorem dX3_half_33 : decode cX3_half 33 = .ok (.lshr, 1) := by decide +kernel
theorem dX3_half_34 : decode cX3_half 34 = .ok (.lstore 5, 2) := by decide +kernel
theorem dX3_half_36 : decode cX3_half 36 = .ok (.lload_n 0, 1) := by decide +kernel
theorem dX3_half_37 : decode cX3_half 37 = .ok (.iload_n 2, 1) := by decide +kernel
theorem dX3_half_38 : decode cX3_half 38 = .ok (.invokestatic 62, 3) := by decide +kernel
theorem dX3_half_41 : decode cX3_half 41 = .ok (.land, 1) := by decide +kernel
theorem dX3_half_42 : decode cX3_half 42 = .ok (.lload 5, 2) := by decide +kernel
theorem dX3_half_44 : decode cX3_half 44 = .ok (.lload_n 3, 1) := by decide +kernel
theorem dX3_half_45 : decode cX3_half 45 = .ok (.lload 5, 2) := by decide +kernel
theorem dX3_half_47 : decode cX3_half 47 = .ok (.land, 1) := by decide +kernel
theorem dX3_half_48 : decode cX3_half 48 = .ok (.lconst 1, 1) := by decide +kernel
theorem dX3_half_49 : decode cX3_half 49 = .ok (.land, 1) := by decide +kernel
theorem dX3_half_50 : decode cX3_half 50 = .ok (.ladd, 1) := by decide +kernel
theorem dX3_half_51 : decode cX3_half 51 = .ok (.lor, 1) := by decide +kernel
theorem dX3_half_52 : decode cX3_half 52 = .ok (.lreturn, 1) := by decide +kernel
set_option maxRecDepth 20000 in
theorem ggX3_twice_X3_amount : GoodIn wsX3_twice wsX3_amount := goodIn_r _ [5, 6, 7, 8, 4, 9, 10, 11] (by decide +kernel) (by decide +kernel)
set_option maxRecDepth 20000 in
theorem gX3_twice_X3_amount : GoodIn wsX3_twice (va_wsS RX3 80 yX3_amount wsX3_amount) := goodIn_app (goodIn_of _ (by decide +kernel)) ggX3_twice_X3_amount
set_option maxRecDepth 20000 in
theorem ggX3_twice_X3_bias : GoodIn wsX3_twice wsX3_bias := goodIn_r _ [14, 15, 16] (by decide +kernel) (by decide +kernel)
set_option maxRecDepth 20000 in
theorem gX3_twice_X3_bias : GoodIn wsX3_twice (va_wsS RX3 73 yX3_bias wsX3_bias) := goodIn_app (goodIn_of _ (by decide +kernel)) ggX3_twice_X3_bias
set_option maxRecDepth 20000 in
theorem ggX3_twice_X3_sign : GoodIn wsX3_twice wsX3_sign := goodIn_r _ [9, 10, 11] (by decide +kernel) (by decide +kernel)
set_option maxRecDepth 20000 in
theorem gX3_twice_X3_sign : GoodIn wsX3_twice (va_wsS RX3 62 yX3_sign wsX3_sign) := goodIn_app (goodIn_of _ (by decide +kernel)) ggX3_twice_X3_sign
set_option maxRecDepth 20000 in
theorem ggX3_twice_X3_endless : GoodIn wsX3_twice wsX3_endless := goodIn_r _ [19, 1, 12, 13, 4, 14, 15, 16] (by decide +kernel) (by decide +kernel)
set_option maxRecDepth 20000 in
theorem gX3_twice_X3_endless : GoodIn wsX3_twice (va_wsS RX3 58 yX3_endless wsX3_endless) := goodIn_app (goodIn_of _ (by decide +kernel)) ggX3_twice_X3_endless
theorem dX3_twice_0 : decode cX3_twice 0 = .ok (.lload_n 0, 1) := by decide +kernel
theorem dX3_twice_1 : decode cX3_twice 1 = .ok (.iload_n 2, 1) := by decide +kernel
theorem dX3_twice_2 : decode cX3_twice 2 = .ok (.invokestatic 80, 3) := by decide +kernel
theorem dX3_twice_5 : decode cX3_twice 5 = .ok (.lstore_n 3, 1) := by decide +kernel
theorem dX3_twice_6 : decode cX3_twice 6 = .ok (.lload_n 3, 1) := by decide +kernel
theorem dX3_twice_7 : decode cX3_twice 7 = .ok (.iload_n 2, 1) := by decide +kernel
theorem dX3_twice_8 : decode cX3_twice 8 = .ok (.lshr, 1) := by decide +kernel
theorem dX3_twice_9 : decode cX3_twice 9 = .ok (.ldc2_w 76, 3) := by decide +kernel
theorem dX3_twice_12 : decode cX3_twice 12 = .ok (.iload_n 2, 1) := by decide +kernel
theorem dX3_twice_13 : decode cX3_twice 13 = .ok (.invokestatic 73, 3) := by decide +kernel
theorem dX3_twice_16 : decode cX3_twice 16 = .ok (.lmul, 1) := by decide +kernel
theorem dX3_twice_17 : decode cX3_twice 17 = .ok (.lcmp, 1) := by decide +kernel
theorem dX3_twice_18 : decode cX3_twice 18 = .ok (.ifCond .lt 15, 3) := by decide +kernel
theorem dX3_twice_21 : decode cX3_twice 21 = .ok (.lload_n 0, 1) := by decide +kernel
theorem dX3_twice_22 : decode cX3_twice 22 = .ok (.iload_n 2, 1) := by decide +kernel
theorem dX3_twice_23 : decode cX3_twice 23 = .ok (.invokestatic 62, 3) := by decide +kernel
theorem dX3_twice_26 : decode cX3_twice 26 = .ok (.land, 1) := by decide +kernel
theorem dX3_twice_27 : decode cX3_twice 27 = .ok (.iload_n 2, 1) := by decide +kernel
theorem dX3_twice_28 : decode cX3_twice 28 = .ok (.invokestatic 58, 3) := by decide +kernel
theorem dX3_twice_31 : decode cX3_twice 31 = .ok (.lor, 1) := by decide +kernel
theorem dX3_twice_32 : decode cX3_twice 32 = .ok (.lreturn, 1) := by decide +kernel
theorem dX3_twice_33 : decode cX3_twice 33 = .ok (.lload_n 0, 1) := by decide +kernel
theorem dX3_twice_34 : decode cX3_twice 34 = .ok (.iload_n 2, 1) := by decide +kernel
theorem dX3_twice_35 : decode cX3_twice 35 = .ok (.invokestatic 62, 3) := by decide +kernel
theorem dX3_twice_38 : decode cX3_twice 38 = .ok (.land, 1) := by decide +kernel
theorem dX3_twice_39 : decode cX3_twice 39 = .ok (.lload_n 3, 1) := by decide +kernel
theorem dX3_twice_40 : decode cX3_twice 40 = .ok (.iload_n 2, 1) := by decide +kernel
theorem dX3_twice_41 : decode cX3_twice 41 = .ok (.lshr, 1) := by decide +kernel
theorem dX3_twice_42 : decode cX3_twice 42 = .ok (.lconst 0, 1) := by decide +kernel
theorem dX3_twice_43 : decode cX3_twice 43 = .ok (.lcmp, 1) := by decide +kernel
theorem dX3_twice_44 : decode cX3_twice 44 = .ok (.ifCond .ne 11, 3) := by decide +kernel
theorem dX3_twice_47 : decode cX3_twice 47 = .ok (.ldc2_w 76, 3) := by decide +kernel
theorem dX3_twice_50 : decode cX3_twice 50 = .ok (.lload_n 3, 1) := by decide +kernel
theorem dX3_twice_51 : decode cX3_twice 51 = .ok (.lmul, 1) := by decide +kernel
theorem dX3_twice_52 : decode cX3_twice 52 = .ok (.goto 8, 3) := by decide +kernel
theorem dX3_twice_55 : decode cX3_twice 55 = .ok (.lload_n 3, 1) := by decide +kernel
theorem dX3_twice_56 : decode cX3_twice 56 = .ok (.lconst 1, 1) := by decide +kernel
theorem dX3_twice_57 : decode cX3_twice 57 = .ok (.iload_n 2, 1) := by decide +kernel
theorem dX3_twice_58 : decode cX3_twice 58 = .ok (.lshl, 1) := by decide +kernel
theorem dX3_twice_59 : decode cX3_twice 59 = .ok (.ladd, 1) := by decide +kernel
theorem dX3_twice_60 : decode cX3_twice 60 = .ok (.lor, 1) := by decide +kernel
theorem dX3_twice_61 : decode cX3_twice 61 = .ok (.lreturn, 1) := by decide +kernel
theorem dX3_place_0 : decode cX3_place 0 = .ok (.lload_n 0, 1) := by decide +kernel
theorem dX3_place_1 : decode cX3_place 1 = .ok (.lconst 0, 1) := by decide +kernel
theorem dX3_place_2 : decode cX3_place 2 = .ok (.lcmp, 1) := by decide +kernel
theorem dX3_place_3 : decode cX3_place 3 = .ok (.ifCond .ge 11, 3) := by decide +kernel
theorem dX3_place_6 : decode cX3_place 6 = .ok (.lload_n 0, 1) := by decide +kernel
theorem dX3_place_7 : decode cX3_place 7 = .ok (.ldc2_w 94, 3) := by decide +kernel
theorem dX3_place_10 : decode cX3_place 10 = .ok (.lxor, 1) := by decide +kernel
theorem dX3_place_11 : decode cX3_place 11 = .ok (.goto 4, 3) := by decide +kernel
theorem dX3_place_14 : decode cX3_place 14 = .ok (.lload_n 0, 1) := by decide +kernel
theorem dX3_place_15 : decode cX3_place 15 = .ok (.lreturn, 1) := by decide +kernel
theorem dX3_place4_0 : decode cX3_place4 0 = .ok (.iload_n 0, 1) := by decide +kernel
theorem dX3_place4_1 : decode cX3_place4 1 = .ok (.ifCond .ge 10, 3) := by decide +kernel
theorem dX3_place4_4 : decode cX3_place4 4 = .ok (.iload_n 0, 1) := by decide +kernel
theorem dX3_place4_5 : decode cX3_place4 5 = .ok (.ldc 96, 2) := by decide +kernel
theorem dX3_place4_7 : decode cX3_place4 7 = .ok (.ixor, 1) := by decide +kernel
theorem dX3_place4_8 : decode cX3_place4 8 = .ok (.goto 4, 3) := by decide +kernel
theorem dX3_place4_11 : decode cX3_place4 11 = .ok (.iload_n 0, 1) := by decide +kernel
theorem dX3_place4_12 : decode cX3_place4 12 = .ok (.ireturn, 1) := by decide +kernel
set_option maxRecDepth 20000 in
theorem ggX3_greater_X3_place : GoodIn wsX3_greater wsX3_place := goodIn_r _ [4, 5] (by decide +kernel) (by decide +kernel)
set_option maxRecDepth 20000 in
theorem gX3_greater_X3_place : GoodIn wsX3_greater (va_wsS RX3 97 yX3_place wsX3_place) := goodIn_app (goodIn_of _ (by decide +kernel)) ggX3_greater_X3_place
theorem dX3_greater_0 : decode cX3_greater 0 = .ok (.lload_n 0, 1) := by decide +kernel
theorem dX3_greater_1 : decode cX3_greater 1 = .ok (.invokestatic 97, 3) := by decide +kernel
theorem dX3_greater_4 : decode cX3_greater 4 = .ok (.lload_n 2, 1) := by decide +kernel
theorem dX3_greater_5 : decode cX3_greater 5 = .ok (.invokestatic 97, 3) := by decide +kernel
theorem dX3_greater_8 : decode cX3_greater 8 = .ok (.lcmp, 1) := by decide +kernel
theorem dX3_greater_9 : decode cX3_greater 9 = .ok (.ifCond .lt 7, 3) := by decide +kernel
theorem dX3_greater_12 : decode cX3_greater 12 = .ok (.lload_n 0, 1) := by decide +kernel
theorem dX3_greater_13 : decode cX3_greater 13 = .ok (.goto 4, 3) := by decide +kernel
theorem dX3_greater_16 : decode cX3_greater 16 = .ok (.lload_n 2, 1) := by decide +kernel
theorem dX3_greater_17 : decode cX3_greater 17 = .ok (.lreturn, 1) := by decide +kernel
set_option maxRecDepth 20000 in
theorem ggX3_lesser_X3_place : GoodIn wsX3_lesser wsX3_place := goodIn_r _ [4, 5] (by decide +kernel) (by decide +kernel)
set_option maxRecDepth 20000 in
theorem gX3_lesser_X3_place : GoodIn wsX3_lesser (va_wsS RX3 97 yX3_place wsX3_place) := goodIn_app (goodIn_of _ (by decide +kernel)) ggX3_lesser_X3_place
theorem dX3_lesser_0 : decode cX3_lesser 0 = .ok (.lload_n 0, 1) := by decide +kernel
theorem dX3_lesser_1 : decode cX3_lesser 1 = .ok (.invokestatic 97, 3) := by decide +kernel
theorem dX3_lesser_4 : decode cX3_lesser 4 = .ok (.lload_n 2, 1) := by decide +kernel
theorem dX3_lesser_5 : decode cX3_lesser 5 = .ok (.invokestatic 97, 3) := by decide +kernel
theorem dX3_lesser_8 : decode cX3_lesser 8 = .ok (.lcmp, 1) := by decide +kernel
theorem dX3_lesser_9 : decode cX3_lesser 9 = .ok (.ifCond .gt 7, 3) := by decide +kernel
theorem dX3_lesser_12 : decode cX3_lesser 12 = .ok (.lload_n 0, 1) := by decide +kernel
theorem dX3_lesser_13 : decode cX3_lesser 13 = .ok (.goto 4, 3) := by decide +kernel
theorem dX3_lesser_16 : decode cX3_lesser 16 = .ok (.lload_n 2, 1) := by decide +kernel
theorem dX3_lesser_17 : decode cX3_lesser 17 = .ok (.lreturn, 1) := by decide +kernel
set_option maxRecDepth 20000 in
theorem ggX3_greater4_X3_place4 : GoodIn wsX3_greater4 wsX3_place4 := goodIn_r _ [4, 5] (by decide +kernel) (by decide +kernel)
set_option maxRecDepth 20000 in
theorem gX3_greater4_X3_place4 : GoodIn wsX3_greater4 (va_wsS RX3 101 yX3_place4 wsX3_place4) := goodIn_app (goodIn_of _ (by decide +kernel)) ggX3_greater4_X3_place4
theorem dX3_greater4_0 : decode cX3_greater4 0 = .ok (.iload_n 0, 1) := by decide +kernel
theorem dX3_greater4_1 : decode cX3_greater4 1 = .ok (.invokestatic 101, 3) := by decide +kernel
theorem dX3_greater4_4 : decode cX3_greater4 4 = .ok (.iload_n 1, 1) := by decide +kernel
theorem dX3_greater4_5 : decode cX3_greater4 5 = .ok (.invokestatic 101, 3) := by decide +kernel
theorem dX3_greater4_8 : decode cX3_greater4 8 = .ok (.if_icmp .lt 7, 3) := by decide +kernel
theorem dX3_greater4_11 : decode cX3_greater4 11 = .ok (.iload_n 0, 1) := by decide +kernel
theorem dX3_greater4_12 : decode cX3_greater4 12 = .ok (.goto 4, 3) := by decide +kernel
theorem dX3_greater4_15 : decode cX3_greater4 15 = .ok (.iload_n 1, 1) := by decide +kernel
theorem dX3_greater4_16 : decode cX3_greater4 16 = .ok (.ireturn, 1) := by decide +kernel
set_option maxRecDepth 20000 in
theorem ggX3_lesser4_X3_place4 : GoodIn wsX3_lesser4 wsX3_place4 := goodIn_r _ [4, 5] (by decide +kernel) (by decide +kernel)
set_option maxRecDepth 20000 in
theorem gX3_lesser4_X3_place4 : GoodIn wsX3_lesser4 (va_wsS RX3 101 yX3_place4 wsX3_place4) := goodIn_app (goodIn_of _ (by decide +kernel)) ggX3_lesser4_X3_place4
theorem dX3_lesser4_0 : decode cX3_lesser4 0 = .ok (.iload_n 0, 1) := by decide +kernel
theorem dX3_lesser4_1 : decode cX3_lesser4 1 = .ok (.invokestatic 101, 3) := by decide +kernel
theorem dX3_lesser4_4 : decode cX3_lesser4 4 = .ok (.iload_n 1, 1) := by decide +kernel
theorem dX3_lesser4_5 : decode cX3_lesser4 5 = .ok (.invokestatic 101, 3) := by decide +kernel
theorem dX3_lesser4_8 : decode cX3_lesser4 8 = .ok (.if_icmp .gt 7, 3) := by decide +kernel
theorem dX3_lesser4_11 : decode cX3_lesser4 11 = .ok (.iload_n 0, 1) := by decide +kernel
theorem dX3_lesser4_12 : decode cX3_lesser4 12 = .ok (.goto 4, 3) := by decide +kernel
theorem dX3_lesser4_15 : decode cX3_lesser4 15 = .ok (.iload_n 1, 1) := by decide +kernel
theorem dX3_lesser4_16 : decode cX3_lesser4 16 = .ok (.ireturn, 1) := by decide +kernel
theorem dX3_thin_0 : decode cX3_thin 0 = .ok (.iload_n 0, 1) := by decide +kernel
theorem dX3_thin_1 : decode cX3_thin 1 = .ok (.i2l, 1) := by decide +kernel
theorem dX3_thin_2 : decode cX3_thin 2 = .ok (.ldc2_w 105, 3) := by decide +kernel
theorem dX3_thin_5 : decode cX3_thin 5 = .ok (.land, 1) := by decide +kernel
theorem dX3_thin_6 : decode cX3_thin 6 = .ok (.lreturn, 1) := by decide +kernel
theorem dX3_amount4_0 : decode cX3_amount4 0 = .ok (.iload_n 0, 1) := by decide +kernel
theorem dX3_amount4_1 : decode cX3_amount4 1 = .ok (.ldc 96, 2) := by decide +kernel
theorem dX3_amount4_3 : decode cX3_amount4 3 = .ok (.iand, 1) := by decide +kernel
theorem dX3_amount4_4 : decode cX3_amount4 4 = .ok (.ireturn, 1) := by decide +kernel
theorem dX3_isThread_0 : decode cX3_isThread 0 = .ok (.iload_n 0, 1) := by decide +kernel
theorem dX3_isThread_1 : decode cX3_isThread 1 = .ok (.ifCond .lt 13, 3) := by decide +kernel
theorem dX3_isThread_4 : decode cX3_isThread 4 = .ok (.iload_n 0, 1) := by decide +kernel
theorem dX3_isThread_5 : decode cX3_isThread 5 = .ok (.bipush 8, 2) := by decide +kernel
theorem dX3_isThread_7 : decode cX3_isThread 7 = .ok (.if_icmp .ge 7, 3) := by decide +kernel
theorem dX3_isThread_10 : decode cX3_isThread 10 = .ok (.iconst 1, 1) := by decide +kernel
theorem dX3_isThread_11 : decode cX3_isThread 11 = .ok (.goto 4, 3) := by decide +kernel
theorem dX3_isThread_14 : decode cX3_isThread 14 = .ok (.iconst 0, 1) := by decide +kernel
theorem dX3_isThread_15 : decode cX3_isThread 15 = .ok (.ireturn, 1) := by decide +kernel
set_option maxRecDepth 20000 in
theorem ggX3_lack_X3_isThread : GoodIn wsX3_lack wsX3_isThread := goodIn_r _ [5] (by decide +kernel) (by decide +kernel)
set_option maxRecDepth 20000 in
theorem gX3_lack_X3_isThread : GoodIn wsX3_lack (va_wsS RX3 107 yX3_isThread wsX3_isThread) := goodIn_app (goodIn_of _ (by decide +kernel)) ggX3_lack_X3_isThread
theorem dX3_lack_0 : decode cX3_lack 0 = .ok (.iload_n 1, 1) := by decide +kernel
theorem dX3_lack_1 : decode cX3_lack 1 = .ok (.invokestatic 107, 3) := by decide +kernel
theorem dX3_lack_4 : decode cX3_lack 4 = .ok (.ifCond .ne 7, 3) := by decide +kernel
theorem dX3_lack_7 : decode cX3_lack 7 = .ok (.iconst 1, 1) := by decide +kernel
theorem dX3_lack_8 : decode cX3_lack 8 = .ok (.goto 17, 3) := by decide +kernel
theorem dX3_lack_11 : decode cX3_lack 11 = .ok (.aload_n 0, 1) := by decide +kernel
theorem dX3_lack_12 : decode cX3_lack 12 = .ok (.getfield 7, 3) := by decide +kernel
theorem dX3_lack_15 : decode cX3_lack 15 = .ok (.iload_n 1, 1) := by decide +kernel
theorem dX3_lack_16 : decode cX3_lack 16 = .ok (.baload, 1) := by decide +kernel
theorem dX3_lack_17 : decode cX3_lack 17 = .ok (.ifCond .eq 7, 3) := by decide +kernel
theorem dX3_lack_20 : decode cX3_lack 20 = .ok (.iconst 2, 1) := by decide +kernel
theorem dX3_lack_21 : decode cX3_lack 21 = .ok (.goto 4, 3) := by decide +kernel
theorem dX3_lack_24 : decode cX3_lack 24 = .ok (.iconst 0, 1) := by decide +kernel
theorem dX3_lack_25 : decode cX3_lack 25 = .ok (.ireturn, 1) := by decide +kernel
theorem dX3_isReal_0 : decode cX3_isReal 0 = .ok (.iload_n 0, 1) := by decide +kernel
theorem dX3_isReal_1 : decode cX3_isReal 1 = .ok (.ifCond .eq 18, 3) := by decide +kernel
theorem dX3_isReal_4 : decode cX3_isReal 4 = .ok (.iload_n 0, 1) := by decide +kernel
theorem dX3_isReal_5 : decode cX3_isReal 5 = .ok (.iconst 1, 1) := by decide +kernel
theorem dX3_isReal_6 : decode cX3_isReal 6 = .ok (.if_icmp .eq 13, 3) := by decide +kernel
theorem dX3_isReal_9 : decode cX3_isReal 9 = .ok (.iload_n 0, 1) := by decide +kernel
theorem dX3_isReal_10 : decode cX3_isReal 10 = .ok (.iconst 4, 1) := by decide +kernel
theorem dX3_isReal_11 : decode cX3_isReal 11 = .ok (.if_icmp .eq 8, 3) := by decide +kernel
theorem dX3_isReal_14 : decode cX3_isReal 14 = .ok (.iload_n 0, 1) := by decide +kernel
theorem dX3_isReal_15 : decode cX3_isReal 15 = .ok (.iconst 5, 1) := by decide +kernel
theorem dX3_isReal_16 : decode cX3_isReal 16 = .ok (.if_icmp .ne 7, 3) := by decide +kernel
theorem dX3_isReal_19 : decode cX3_isReal 19 = .ok (.iconst 1, 1) := by decide +kernel
theorem dX3_isReal_20 : decode cX3_isReal 20 = .ok (.goto 4, 3) := by decide +kernel
theorem dX3_isReal_23 : decode cX3_isReal 23 = .ok (.iconst 0, 1) := by decide +kernel
theorem dX3_isReal_24 : decode cX3_isReal 24 = .ok (.ireturn, 1) := by decide +kernel
set_option maxRecDepth 20000 in
theorem ggX3_set_X3_lack : GoodIn wsX3_set wsX3_lack := goodIn_r _ [12, 13, 14, 15, 11, 16, 45, 46, 47, 48, 49, 50, 51, 52, 53, 54, 55, 56, 57, 58, 59, 60, 61, 62, 63, 64, 65] (by decide +kernel) (by decide +kernel)
set_option maxRecDepth 20000 in
theorem gX3_set_X3_lack : GoodIn wsX3_set (wsV RX3 111 RX3 yX3_lack wsX3_lack) := goodIn_app (goodIn_of _ (by decide +kernel)) ggX3_set_X3_lack
set_option maxRecDepth 20000 in
theorem ggX3_set_X3_isReal : GoodIn wsX3_set wsX3_isReal := goodIn_r _ [19] (by decide +kernel) (by decide +kernel)
set_option maxRecDepth 20000 in
theorem gX3_set_X3_isReal : GoodIn wsX3_set (va_wsS RX3 118 yX3_isReal wsX3_isReal) := goodIn_app (goodIn_of _ (by decide +kernel)) ggX3_set_X3_isReal
set_option maxRecDepth 20000 in
theorem ggX3_set_X3_thin : GoodIn wsX3_set wsX3_thin := goodIn_r _ [22, 23] (by decide +kernel) (by decide +kernel)
set_option maxRecDepth 20000 in
theorem gX3_set_X3_thin : GoodIn wsX3_set (va_wsS RX3 121 yX3_thin wsX3_thin) := goodIn_app (goodIn_of _ (by decide +kernel)) ggX3_set_X3_thin
set_option maxRecDepth 20000 in
theorem ggX3_set_X3_isNumber : GoodIn wsX3_set wsX3_isNumber := goodIn_r _ [26, 27, 28, 11, 29, 30, 31, 32, 33, 34, 35, 36, 37, 38, 39, 40, 41, 42, 43, 44] (by decide +kernel) (by decide +kernel)
set_option maxRecDepth 20000 in
theorem gX3_set_X3_isNumber : GoodIn wsX3_set (va_wsS RX3 124 yX3_isNumber wsX3_isNumber) := goodIn_app (goodIn_of _ (by decide +kernel)) ggX3_set_X3_isNumber
theorem dX3_set_0 : decode cX3_set 0 = .ok (.aload_n 0, 1) := by decide +kernel
theorem dX3_set_1 : decode cX3_set 1 = .ok (.iload_n 2, 1) := by decide +kernel
theorem dX3_set_2 : decode cX3_set 2 = .ok (.ifCond .lt 8, 3) := by decide +kernel
theorem dX3_set_5 : decode cX3_set 5 = .ok (.iload_n 2, 1) := by decide +kernel
theorem dX3_set_6 : decode cX3_set 6 = .ok (.iconst 5, 1) := by decide +kernel
theorem dX3_set_7 : decode cX3_set 7 = .ok (.if_icmp .le 7, 3) := by decide +kernel
theorem dX3_set_10 : decode cX3_set 10 = .ok (.iconst 5, 1) := by decide +kernel
theorem dX3_set_11 : decode cX3_set 11 = .ok (.goto 8, 3) := by decide +kernel
theorem dX3_set_14 : decode cX3_set 14 = .ok (.aload_n 0, 1) := by decide +kernel
theorem dX3_set_15 : decode cX3_set 15 = .ok (.iload_n 1, 1) := by decide +kernel
theorem dX3_set_16 : decode cX3_set 16 = .ok (.invokevirtual 111, 3) := by decide +kernel
theorem dX3_set_19 : decode cX3_set 19 = .ok (.putfield 114, 3) := by decide +kernel
theorem dX3_set_22 : decode cX3_set 22 = .ok (.aload_n 0, 1) := by decide +kernel
theorem dX3_set_23 : decode cX3_set 23 = .ok (.getfield 114, 3) := by decide +kernel
theorem dX3_set_26 : decode cX3_set 26 = .ok (.ifCond .ne 48, 3) := by decide +kernel
theorem dX3_set_29 : decode cX3_set 29 = .ok (.iload_n 2, 1) := by decide +kernel
theorem dX3_set_30 : decode cX3_set 30 = .ok (.invokestatic 118, 3) := by decide +kernel
theorem dX3_set_33 : decode cX3_set 33 = .ok (.ifCond .eq 41, 3) := by decide +kernel
theorem dX3_set_36 : decode cX3_set 36 = .ok (.iload_n 2, 1) := by decide +kernel
theorem dX3_set_37 : decode cX3_set 37 = .ok (.iconst 1, 1) := by decide +kernel
theorem dX3_set_38 : decode cX3_set 38 = .ok (.if_icmp .ne 11, 3) := by decide +kernel
theorem dX3_set_41 : decode cX3_set 41 = .ok (.lload_n 3, 1) := by decide +kernel
theorem dX3_set_42 : decode cX3_set 42 = .ok (.l2i, 1) := by decide +kernel
theorem dX3_set_43 : decode cX3_set 43 = .ok (.invokestatic 121, 3) := by decide +kernel
theorem dX3_set_46 : decode cX3_set 46 = .ok (.goto 4, 3) := by decide +kernel
theorem dX3_set_49 : decode cX3_set 49 = .ok (.lload_n 3, 1) := by decide +kernel
theorem dX3_set_50 : decode cX3_set 50 = .ok (.iload_n 2, 1) := by decide +kernel
theorem dX3_set_51 : decode cX3_set 51 = .ok (.iconst 1, 1) := by decide +kernel
theorem dX3_set_52 : decode cX3_set 52 = .ok (.if_icmp .ne 8, 3) := by decide +kernel
theorem dX3_set_55 : decode cX3_set 55 = .ok (.bipush 23, 2) := by decide +kernel
theorem dX3_set_57 : decode cX3_set 57 = .ok (.goto 5, 3) := by decide +kernel
theorem dX3_set_60 : decode cX3_set 60 = .ok (.bipush 52, 2) := by decide +kernel
theorem dX3_set_62 : decode cX3_set 62 = .ok (.invokestatic 124, 3) := by decide +kernel
theorem dX3_set_65 : decode cX3_set 65 = .ok (.ifCond .ne 9, 3) := by decide +kernel
theorem dX3_set_68 : decode cX3_set 68 = .ok (.aload_n 0, 1) := by decide +kernel
theorem dX3_set_69 : decode cX3_set 69 = .ok (.bipush 6, 2) := by decide +kernel
theorem dX3_set_71 : decode cX3_set 71 = .ok (.putfield 114, 3) := by decide +kernel
theorem dX3_set_74 : decode cX3_set 74 = .ok (.aload_n 0, 1) := by decide +kernel
theorem dX3_set_75 : decode cX3_set 75 = .ok (.getfield 114, 3) := by decide +kernel
theorem dX3_set_78 : decode cX3_set 78 = .ok (.ifCond .le 8, 3) := by decide +kernel
theorem dX3_set_81 : decode cX3_set 81 = .ok (.aload_n 0, 1) := by decide +kernel
theorem dX3_set_82 : decode cX3_set 82 = .ok (.getfield 114, 3) := by decide +kernel
theorem dX3_set_85 : decode cX3_set 85 = .ok (.ireturn, 1) := by decide +kernel
theorem dX3_set_86 : decode cX3_set 86 = .ok (.iload_n 2, 1) := by decide +kernel
theorem dX3_set_87 : decode cX3_set 87 = .ok (.tableswitch 85 0 4 #[33, 43, 54, 65, 75], 33) := by decide +kernel
theorem dX3_set_120 : decode cX3_set 120 = .ok (.aload_n 0, 1) := by decide +kernel
theorem dX3_set_121 : decode cX3_set 121 = .ok (.getfield 13, 3) := by decide +kernel
theorem dX3_set_124 : decode cX3_set 124 = .ok (.iload_n 1, 1) := by decide +kernel
theorem dX3_set_125 : decode cX3_set 125 = .ok (.lload_n 3, 1) := by decide +kernel
theorem dX3_set_126 : decode cX3_set 126 = .ok (.lastore, 1) := by decide +kernel
theorem dX3_set_127 : decode cX3_set 127 = .ok (.goto 52, 3) := by decide +kernel
theorem dX3_set_130 : decode cX3_set 130 = .ok (.aload_n 0, 1) := by decide +kernel
theorem dX3_set_131 : decode cX3_set 131 = .ok (.getfield 17, 3) := by decide +kernel
theorem dX3_set_134 : decode cX3_set 134 = .ok (.iload_n 1, 1) := by decide +kernel
theorem dX3_set_135 : decode cX3_set 135 = .ok (.lload_n 3, 1) := by decide +kernel
theorem dX3_set_136 : decode cX3_set 136 = .ok (.l2i, 1) := by decide +kernel
theorem dX3_set_137 : decode cX3_set 137 = .ok (.iastore, 1) := by decide +kernel
theorem dX3_set_138 : decode cX3_set 138 = .ok (.goto 41, 3) := by decide +kernel
theorem dX3_set_141 : decode cX3_set 141 = .ok (.aload_n 0, 1) := by decide +kernel
theorem dX3_set_142 : decode cX3_set 142 = .ok (.getfield 21, 3) := by decide +kernel
theorem dX3_set_145 : decode cX3_set 145 = .ok (.iload_n 1, 1) := by decide +kernel
theorem dX3_set_146 : decode cX3_set 146 = .ok (.lload_n 3, 1) := by decide +kernel
theorem dX3_set_147 : decode cX3_set 147 = .ok (.l2i, 1) := by decide +kernel
theorem dX3_set_148 : decode cX3_set 148 = .ok (.iastore, 1) := by decide +kernel
theorem dX3_set_149 : decode cX3_set 149 = .ok (.goto 30, 3) := by decide +kernel
theorem dX3_set_152 : decode cX3_set 152 = .ok (.aload_n 0, 1) := by decide +kernel
theorem dX3_set_153 : decode cX3_set 153 = .ok (.getfield 24, 3) := by decide +kernel
theorem dX3_set_156 : decode cX3_set 156 = .ok (.iload_n 1, 1) := by decide +kernel
theorem dX3_set_157 : decode cX3_set 157 = .ok (.lload_n 3, 1) := by decide +kernel
theorem dX3_set_158 : decode cX3_set 158 = .ok (.lastore, 1) := by decide +kernel
theorem dX3_set_159 : decode cX3_set 159 = .ok (.goto 20, 3) := by decide +kernel
theorem dX3_set_162 : decode cX3_set 162 = .ok (.aload_n 0, 1) := by decide +kernel
theorem dX3_set_163 : decode cX3_set 163 = .ok (.getfield 27, 3) := by decide +kernel
theorem dX3_set_166 : decode cX3_set 166 = .ok (.iload_n 1, 1) := by decide +kernel
theorem dX3_set_167 : decode cX3_set 167 = .ok (.lload_n 3, 1) := by decide +kernel
theorem dX3_set_168 : decode cX3_set 168 = .ok (.lastore, 1) := by decide +kernel
theorem dX3_set_169 : decode cX3_set 169 = .ok (.goto 10, 3) := by decide +kernel
theorem dX3_set_172 : decode cX3_set 172 = .ok (.aload_n 0, 1) := by decide +kernel
theorem dX3_set_173 : decode cX3_set 173 = .ok (.getfield 30, 3) := by decide +kernel
theorem dX3_set_176 : decode cX3_set 176 = .ok (.iload_n 1, 1) := by decide +kernel
theorem dX3_set_177 : decode cX3_set 177 = .ok (.lload_n 3, 1) := by decide +kernel
theorem dX3_set_178 : decode cX3_set 178 = .ok (.lastore, 1) := by decide +kernel
theorem dX3_set_179 : decode cX3_set 179 = .ok (.iconst 0, 1) := by decide +kernel
theorem dX3_set_180 : decode cX3_set 180 = .ok (.ireturn, 1) := by decide +kernel
set_option maxRecDepth 20000 in
theorem ggX3_get_X3_lack : GoodIn wsX3_get wsX3_lack := goodIn_r _ [12, 13, 14, 15, 11, 16, 17, 18, 19, 20, 21, 22, 23, 24, 25, 26, 27, 28, 29, 30, 31, 32, 33, 34, 35, 36, 37] (by decide +kernel) (by decide +kernel)
set_option maxRecDepth 20000 in
theorem gX3_get_X3_lack : GoodIn wsX3_get (wsV RX3 111 RX3 yX3_lack wsX3_lack) := goodIn_app (goodIn_of _ (by decide +kernel)) ggX3_get_X3_lack
theorem dX3_get_0 : decode cX3_get 0 = .ok (.aload_n 0, 1) := by decide +kernel
theorem dX3_get_1 : decode cX3_get 1 = .ok (.iload_n 2, 1) := by decide +kernel
theorem dX3_get_2 : decode cX3_get 2 = .ok (.ifCond .lt 8, 3) := by decide +kernel
theorem dX3_get_5 : decode cX3_get 5 = .ok (.iload_n 2, 1) := by decide +kernel
theorem dX3_get_6 : decode cX3_get 6 = .ok (.iconst 5, 1) := by decide +kernel
theorem dX3_get_7 : decode cX3_get 7 = .ok (.if_icmp .le 7, 3) := by decide +kernel
theorem dX3_get_10 : decode cX3_get 10 = .ok (.iconst 5, 1) := by decide +kernel
theorem dX3_get_11 : decode cX3_get 11 = .ok (.goto 8, 3) := by decide +kernel
theorem dX3_get_14 : decode cX3_get 14 = .ok (.aload_n 0, 1) := by decide +kernel
theorem dX3_get_15 : decode cX3_get 15 = .ok (.iload_n 1, 1) := by decide +kernel
theorem dX3_get_16 : decode cX3_get 16 = .ok (.invokevirtual 111, 3) := by decide +kernel
theorem dX3_get_19 : decode cX3_get 19 = .ok (.putfield 114, 3) := by decide +kernel
theorem dX3_get_22 : decode cX3_get 22 = .ok (.aload_n 0, 1) := by decide +kernel
theorem dX3_get_23 : decode cX3_get 23 = .ok (.getfield 114, 3) := by decide +kernel
theorem dX3_get_26 : decode cX3_get 26 = .ok (.ifCond .le 5, 3) := by decide +kernel
theorem dX3_get_29 : decode cX3_get 29 = .ok (.lconst 0, 1) := by decide +kernel
theorem dX3_get_30 : decode cX3_get 30 = .ok (.lreturn, 1) := by decide +kernel
theorem dX3_get_31 : decode cX3_get 31 = .ok (.iload_n 2, 1) := by decide +kernel
theorem dX3_get_32 : decode cX3_get 32 = .ok (.ifCond .ne 12, 3) := by decide +kernel
theorem dX3_get_35 : decode cX3_get 35 = .ok (.aload_n 0, 1) := by decide +kernel
theorem dX3_get_36 : decode cX3_get 36 = .ok (.getfield 13, 3) := by decide +kernel
theorem dX3_get_39 : decode cX3_get 39 = .ok (.iload_n 1, 1) := by decide +kernel
theorem dX3_get_40 : decode cX3_get 40 = .ok (.laload, 1) := by decide +kernel
theorem dX3_get_41 : decode cX3_get 41 = .ok (.goto 67, 3) := by decide +kernel
theorem dX3_get_44 : decode cX3_get 44 = .ok (.iload_n 2, 1) := by decide +kernel
theorem dX3_get_45 : decode cX3_get 45 = .ok (.iconst 1, 1) := by decide +kernel
theorem dX3_get_46 : decode cX3_get 46 = .ok (.if_icmp .ne 13, 3) := by decide +kernel
theorem dX3_get_49 : decode cX3_get 49 = .ok (.aload_n 0, 1) := by decide +kernel
theorem dX3_get_50 : decode cX3_get 50 = .ok (.getfield 17, 3) := by decide +kernel
theorem dX3_get_53 : decode cX3_get 53 = .ok (.iload_n 1, 1) := by decide +kernel
theorem dX3_get_54 : decode cX3_get 54 = .ok (.iaload, 1) := by decide +kernel
theorem dX3_get_55 : decode cX3_get 55 = .ok (.i2l, 1) := by decide +kernel
theorem dX3_get_56 : decode cX3_get 56 = .ok (.goto 52, 3) := by decide +kernel
theorem dX3_get_59 : decode cX3_get 59 = .ok (.iload_n 2, 1) := by decide +kernel
theorem dX3_get_60 : decode cX3_get 60 = .ok (.iconst 2, 1) := by decide +kernel
theorem dX3_get_61 : decode cX3_get 61 = .ok (.if_icmp .ne 13, 3) := by decide +kernel
theorem dX3_get_64 : decode cX3_get 64 = .ok (.aload_n 0, 1) := by decide +kernel
theorem dX3_get_65 : decode cX3_get 65 = .ok (.getfield 21, 3) := by decide +kernel
theorem dX3_get_68 : decode cX3_get 68 = .ok (.iload_n 1, 1) := by decide +kernel
theorem dX3_get_69 : decode cX3_get 69 = .ok (.iaload, 1) := by decide +kernel
theorem dX3_get_70 : decode cX3_get 70 = .ok (.i2l, 1) := by decide +kernel
theorem dX3_get_71 : decode cX3_get 71 = .ok (.goto 37, 3) := by decide +kernel
theorem dX3_get_74 : decode cX3_get 74 = .ok (.iload_n 2, 1) := by decide +kernel
theorem dX3_get_75 : decode cX3_get 75 = .ok (.iconst 3, 1) := by decide +kernel
theorem dX3_get_76 : decode cX3_get 76 = .ok (.if_icmp .ne 12, 3) := by decide +kernel
theorem dX3_get_79 : decode cX3_get 79 = .ok (.aload_n 0, 1) := by decide +kernel
theorem dX3_get_80 : decode cX3_get 80 = .ok (.getfield 24, 3) := by decide +kernel
theorem dX3_get_83 : decode cX3_get 83 = .ok (.iload_n 1, 1) := by decide +kernel
theorem dX3_get_84 : decode cX3_get 84 = .ok (.laload, 1) := by decide +kernel
theorem dX3_get_85 : decode cX3_get 85 = .ok (.goto 23, 3) := by decide +kernel
theorem dX3_get_88 : decode cX3_get 88 = .ok (.iload_n 2, 1) := by decide +kernel
theorem dX3_get_89 : decode cX3_get 89 = .ok (.iconst 4, 1) := by decide +kernel
theorem dX3_get_90 : decode cX3_get 90 = .ok (.if_icmp .ne 12, 3) := by decide +kernel
theorem dX3_get_93 : decode cX3_get 93 = .ok (.aload_n 0, 1) := by decide +kernel
theorem dX3_get_94 : decode cX3_get 94 = .ok (.getfield 27, 3) := by decide +kernel
theorem dX3_get_97 : decode cX3_get 97 = .ok (.iload_n 1, 1) := by decide +kernel
theorem dX3_get_98 : decode cX3_get 98 = .ok (.laload, 1) := by decide +kernel
theorem dX3_get_99 : decode cX3_get 99 = .ok (.goto 9, 3) := by decide +kernel
theorem dX3_get_102 : decode cX3_get 102 = .ok (.aload_n 0, 1) := by decide +kernel
theorem dX3_get_103 : decode cX3_get 103 = .ok (.getfield 30, 3) := by decide +kernel
theorem dX3_get_106 : decode cX3_get 106 = .ok (.iload_n 1, 1) := by decide +kernel
theorem dX3_get_107 : decode cX3_get 107 = .ok (.laload, 1) := by decide +kernel
theorem dX3_get_108 : decode cX3_get 108 = .ok (.lreturn, 1) := by decide +kernel
theorem dX3_refused_0 : decode cX3_refused 0 = .ok (.aload_n 0, 1) := by decide +kernel
theorem dX3_refused_1 : decode cX3_refused 1 = .ok (.getfield 114, 3) := by decide +kernel
theorem dX3_refused_4 : decode cX3_refused 4 = .ok (.ireturn, 1) := by decide +kernel
set_option maxRecDepth 20000 in
theorem ggX3_cut_X3_lack : GoodIn wsX3_cut wsX3_lack := goodIn_r _ [7, 2, 8, 9, 6, 10, 11, 12, 13, 14, 15, 16, 17, 18, 19, 20, 21, 22, 23, 24, 25, 26, 27, 28, 29, 30, 31] (by decide +kernel) (by decide +kernel)
set_option maxRecDepth 20000 in
theorem gX3_cut_X3_lack : GoodIn wsX3_cut (wsV RX3 111 RX3 yX3_lack wsX3_lack) := goodIn_app (goodIn_of _ (by decide +kernel)) ggX3_cut_X3_lack
theorem dX3_cut_0 : decode cX3_cut 0 = .ok (.aload_n 0, 1) := by decide +kernel
theorem dX3_cut_1 : decode cX3_cut 1 = .ok (.aload_n 0, 1) := by decide +kernel
theorem dX3_cut_2 : decode cX3_cut 2 = .ok (.iload_n 1, 1) := by decide +kernel
theorem dX3_cut_3 : decode cX3_cut 3 = .ok (.invokevirtual 111, 3) := by decide +kernel
theorem dX3_cut_6 : decode cX3_cut 6 = .ok (.putfield 114, 3) := by decide +kernel
theorem dX3_cut_9 : decode cX3_cut 9 = .ok (.aload_n 0, 1) := by decide +kernel
theorem dX3_cut_10 : decode cX3_cut 10 = .ok (.getfield 114, 3) := by decide +kernel
theorem dX3_cut_13 : decode cX3_cut 13 = .ok (.ifCond .ne 10, 3) := by decide +kernel
theorem dX3_cut_16 : decode cX3_cut 16 = .ok (.aload_n 0, 1) := by decide +kernel
theorem dX3_cut_17 : decode cX3_cut 17 = .ok (.getfield 7, 3) := by decide +kernel
theorem dX3_cut_20 : decode cX3_cut 20 = .ok (.iload_n 1, 1) := by decide +kernel
theorem dX3_cut_21 : decode cX3_cut 21 = .ok (.iconst 1, 1) := by decide +kernel
theorem dX3_cut_22 : decode cX3_cut 22 = .ok (.bastore, 1) := by decide +kernel
theorem dX3_cut_23 : decode cX3_cut 23 = .ok (.aload_n 0, 1) := by decide +kernel
theorem dX3_cut_24 : decode cX3_cut 24 = .ok (.getfield 114, 3) := by decide +kernel
theorem dX3_cut_27 : decode cX3_cut 27 = .ok (.ireturn, 1) := by decide +kernel
set_option maxRecDepth 20000 in
theorem ggX3_string_X3_isThread : GoodIn wsX3_string wsX3_isThread := goodIn_r _ [6] (by decide +kernel) (by decide +kernel)
set_option maxRecDepth 20000 in
theorem gX3_string_X3_isThread : GoodIn wsX3_string (va_wsS RX3 107 yX3_isThread wsX3_isThread) := goodIn_app (goodIn_of _ (by decide +kernel)) ggX3_string_X3_isThread
set_option maxRecDepth 20000 in
theorem ggX3_string_X3_begin : GoodIn wsX3_string wsX3_begin := goodIn_r _ [10, 1, 11, 12, 13, 14, 15, 16, 17, 18, 5, 19, 20, 21, 22, 23, 24, 25, 26, 27, 28, 29, 30, 31, 32, 33, 34, 35, 36, 37, 38, 39, 40, 41, 42, 43, 44, 45, 46, 47, 48, 49, 50, 51] (by decide +kernel) (by decide +kernel)
set_option maxRecDepth 20000 in
theorem gX3_string_X3_begin : GoodIn wsX3_string (wsV RX3 54 RX3 yX3_begin wsX3_begin) := goodIn_app (goodIn_of _ (by decide +kernel)) ggX3_string_X3_begin
theorem dX3_string_0 : decode cX3_string 0 = .ok (.aload_n 0, 1) := by decide +kernel
theorem dX3_string_1 : decode cX3_string 1 = .ok (.iload_n 1, 1) := by decide +kernel
theorem dX3_string_2 : decode cX3_string 2 = .ok (.invokestatic 107, 3) := by decide +kernel
theorem dX3_string_5 : decode cX3_string 5 = .ok (.ifCond .ne 7, 3) := by decide +kernel
theorem dX3_string_8 : decode cX3_string 8 = .ok (.iconst 1, 1) := by decide +kernel
theorem dX3_string_9 : decode cX3_string 9 = .ok (.goto 18, 3) := by decide +kernel
theorem dX3_string_12 : decode cX3_string 12 = .ok (.aload_n 0, 1) := by decide +kernel
theorem dX3_string_13 : decode cX3_string 13 = .ok (.getfield 7, 3) := by decide +kernel
theorem dX3_string_16 : decode cX3_string 16 = .ok (.iload_n 1, 1) := by decide +kernel
theorem dX3_string_17 : decode cX3_string 17 = .ok (.baload, 1) := by decide +kernel
theorem dX3_string_18 : decode cX3_string 18 = .ok (.ifCond .eq 7, 3) := by decide +kernel
theorem dX3_string_21 : decode cX3_string 21 = .ok (.iconst 0, 1) := by decide +kernel
theorem dX3_string_22 : decode cX3_string 22 = .ok (.goto 5, 3) := by decide +kernel
theorem dX3_string_25 : decode cX3_string 25 = .ok (.bipush 7, 2) := by decide +kernel
theorem dX3_string_27 : decode cX3_string 27 = .ok (.putfield 114, 3) := by decide +kernel
theorem dX3_string_30 : decode cX3_string 30 = .ok (.aload_n 0, 1) := by decide +kernel
theorem dX3_string_31 : decode cX3_string 31 = .ok (.getfield 114, 3) := by decide +kernel
theorem dX3_string_34 : decode cX3_string 34 = .ok (.ifCond .ne 8, 3) := by decide +kernel
theorem dX3_string_37 : decode cX3_string 37 = .ok (.aload_n 0, 1) := by decide +kernel
theorem dX3_string_38 : decode cX3_string 38 = .ok (.iload_n 1, 1) := by decide +kernel
theorem dX3_string_39 : decode cX3_string 39 = .ok (.invokevirtual 54, 3) := by decide +kernel
theorem dX3_string_42 : decode cX3_string 42 = .ok (.aload_n 0, 1) := by decide +kernel
theorem dX3_string_43 : decode cX3_string 43 = .ok (.getfield 114, 3) := by decide +kernel
theorem dX3_string_46 : decode cX3_string 46 = .ok (.ireturn, 1) := by decide +kernel
theorem dX3_wantsOther_0 : decode cX3_wantsOther 0 = .ok (.iload_n 0, 1) := by decide +kernel
theorem dX3_wantsOther_1 : decode cX3_wantsOther 1 = .ok (.iconst 1, 1) := by decide +kernel
theorem dX3_wantsOther_2 : decode cX3_wantsOther 2 = .ok (.if_icmp .eq 26, 3) := by decide +kernel
theorem dX3_wantsOther_5 : decode cX3_wantsOther 5 = .ok (.iload_n 0, 1) := by decide +kernel
theorem dX3_wantsOther_6 : decode cX3_wantsOther 6 = .ok (.iconst 2, 1) := by decide +kernel
theorem dX3_wantsOther_7 : decode cX3_wantsOther 7 = .ok (.if_icmp .eq 21, 3) := by decide +kernel
theorem dX3_wantsOther_10 : decode cX3_wantsOther 10 = .ok (.iload_n 0, 1) := by decide +kernel
theorem dX3_wantsOther_11 : decode cX3_wantsOther 11 = .ok (.bipush 7, 2) := by decide +kernel
theorem dX3_wantsOther_13 : decode cX3_wantsOther 13 = .ok (.if_icmp .eq 15, 3) := by decide +kernel
theorem dX3_wantsOther_16 : decode cX3_wantsOther 16 = .ok (.iload_n 0, 1) := by decide +kernel
theorem dX3_wantsOther_17 : decode cX3_wantsOther 17 = .ok (.bipush 9, 2) := by decide +kernel
theorem dX3_wantsOther_19 : decode cX3_wantsOther 19 = .ok (.if_icmp .eq 9, 3) := by decide +kernel
theorem dX3_wantsOther_22 : decode cX3_wantsOther 22 = .ok (.iload_n 0, 1) := by decide +kernel
theorem dX3_wantsOther_23 : decode cX3_wantsOther 23 = .ok (.bipush 11, 2) := by decide +kernel
theorem dX3_wantsOther_25 : decode cX3_wantsOther 25 = .ok (.if_icmp .ne 7, 3) := by decide +kernel
theorem dX3_wantsOther_28 : decode cX3_wantsOther 28 = .ok (.iconst 1, 1) := by decide +kernel
theorem dX3_wantsOther_29 : decode cX3_wantsOther 29 = .ok (.goto 4, 3) := by decide +kernel
theorem dX3_wantsOther_32 : decode cX3_wantsOther 32 = .ok (.iconst 0, 1) := by decide +kernel
theorem dX3_wantsOther_33 : decode cX3_wantsOther 33 = .ok (.ireturn, 1) := by decide +kernel
set_option maxRecDepth 20000 in
theorem ggX3_lackOf_X3_lack : GoodIn wsX3_lackOf wsX3_lack := goodIn_r _ [5, 6, 7, 8, 4, 9, 13, 14, 15, 16, 17, 18, 19, 20, 21, 22, 23, 24, 25, 26, 27, 28, 29, 30, 31, 32, 33] (by decide +kernel) (by decide +kernel)
set_option maxRecDepth 20000 in
theorem gX3_lackOf_X3_lack : GoodIn wsX3_lackOf (wsV RX3 111 RX3 yX3_lack wsX3_lack) := goodIn_app (goodIn_of _ (by decide +kernel)) ggX3_lackOf_X3_lack
set_option maxRecDepth 20000 in
theorem ggX3_lackOf_X3_wantsOther : GoodIn wsX3_lackOf wsX3_wantsOther := goodIn_r _ [12] (by decide +kernel) (by decide +kernel)
set_option maxRecDepth 20000 in
theorem gX3_lackOf_X3_wantsOther : GoodIn wsX3_lackOf (va_wsS RX3 127 yX3_wantsOther wsX3_wantsOther) := goodIn_app (goodIn_of _ (by decide +kernel)) ggX3_lackOf_X3_wantsOther
theorem dX3_lackOf_0 : decode cX3_lackOf 0 = .ok (.iload_n 1, 1) := by decide +kernel
theorem dX3_lackOf_1 : decode cX3_lackOf 1 = .ok (.ifCond .lt 9, 3) := by decide +kernel
theorem dX3_lackOf_4 : decode cX3_lackOf 4 = .ok (.iload_n 1, 1) := by decide +kernel
theorem dX3_lackOf_5 : decode cX3_lackOf 5 = .ok (.bipush 15, 2) := by decide +kernel
theorem dX3_lackOf_7 : decode cX3_lackOf 7 = .ok (.if_icmp .le 5, 3) := by decide +kernel
theorem dX3_lackOf_10 : decode cX3_lackOf 10 = .ok (.iconst 5, 1) := by decide +kernel
theorem dX3_lackOf_11 : decode cX3_lackOf 11 = .ok (.ireturn, 1) := by decide +kernel
theorem dX3_lackOf_12 : decode cX3_lackOf 12 = .ok (.aload_n 0, 1) := by decide +kernel
theorem dX3_lackOf_13 : decode cX3_lackOf 13 = .ok (.iload_n 2, 1) := by decide +kernel
theorem dX3_lackOf_14 : decode cX3_lackOf 14 = .ok (.invokevirtual 111, 3) := by decide +kernel
theorem dX3_lackOf_17 : decode cX3_lackOf 17 = .ok (.ifCond .le 9, 3) := by decide +kernel
theorem dX3_lackOf_20 : decode cX3_lackOf 20 = .ok (.aload_n 0, 1) := by decide +kernel
theorem dX3_lackOf_21 : decode cX3_lackOf 21 = .ok (.iload_n 2, 1) := by decide +kernel
theorem dX3_lackOf_22 : decode cX3_lackOf 22 = .ok (.invokevirtual 111, 3) := by decide +kernel
theorem dX3_lackOf_25 : decode cX3_lackOf 25 = .ok (.ireturn, 1) := by decide +kernel
theorem dX3_lackOf_26 : decode cX3_lackOf 26 = .ok (.iload_n 1, 1) := by decide +kernel
theorem dX3_lackOf_27 : decode cX3_lackOf 27 = .ok (.invokestatic 127, 3) := by decide +kernel
