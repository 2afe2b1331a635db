theorem dX3_lackOf_30 : decode cX3_lackOf 30 = .ok (.ifCond .eq 21, 3) := by decide +kernel
theorem dX3_lackOf_33 : decode cX3_lackOf 33 = .ok (.aload_n 0, 1) := by decide +kernel
theorem dX3_lackOf_34 : decode cX3_lackOf 34 = .ok (.iload_n 3, 1) := by decide +kernel
theorem dX3_lackOf_35 : decode cX3_lackOf 35 = .ok (.invokevirtual 111, 3) := by decide +kernel
theorem dX3_lackOf_38 : decode cX3_lackOf 38 = .ok (.ifCond .le 13, 3) := by decide +kernel
theorem dX3_lackOf_41 : decode cX3_lackOf 41 = .ok (.iconst 2, 1) := by decide +kernel
theorem dX3_lackOf_42 : decode cX3_lackOf 42 = .ok (.aload_n 0, 1) := by decide +kernel
theorem dX3_lackOf_43 : decode cX3_lackOf 43 = .ok (.iload_n 3, 1) := by decide +kernel
theorem dX3_lackOf_44 : decode cX3_lackOf 44 = .ok (.invokevirtual 111, 3) := by decide +kernel
theorem dX3_lackOf_47 : decode cX3_lackOf 47 = .ok (.iadd, 1) := by decide +kernel
theorem dX3_lackOf_48 : decode cX3_lackOf 48 = .ok (.goto 4, 3) := by decide +kernel
theorem dX3_lackOf_51 : decode cX3_lackOf 51 = .ok (.iconst 0, 1) := by decide +kernel
theorem dX3_lackOf_52 : decode cX3_lackOf 52 = .ok (.ireturn, 1) := by decide +kernel
set_option maxRecDepth 20000 in
theorem ggX3_flip_X3_amount : GoodIn wsX3_flip wsX3_amount := goodIn_r _ [8, 9, 10, 11, 7, 12, 13, 14] (by decide +kernel) (by decide +kernel)
set_option maxRecDepth 20000 in
theorem gX3_flip_X3_amount : GoodIn wsX3_flip (va_wsS RX3 80 yX3_amount wsX3_amount) := goodIn_app (goodIn_of _ (by decide +kernel)) ggX3_flip_X3_amount
set_option maxRecDepth 20000 in
theorem ggX3_flip_X3_amount4 : GoodIn wsX3_flip wsX3_amount4 := goodIn_r _ [17, 18] (by decide +kernel) (by decide +kernel)
set_option maxRecDepth 20000 in
theorem gX3_flip_X3_amount4 : GoodIn wsX3_flip (va_wsS RX3 130 yX3_amount4 wsX3_amount4) := goodIn_app (goodIn_of _ (by decide +kernel)) ggX3_flip_X3_amount4
theorem dX3_flip_0 : decode cX3_flip 0 = .ok (.aload_n 0, 1) := by decide +kernel
theorem dX3_flip_1 : decode cX3_flip 1 = .ok (.getfield 13, 3) := by decide +kernel
theorem dX3_flip_4 : decode cX3_flip 4 = .ok (.iload_n 1, 1) := by decide +kernel
theorem dX3_flip_5 : decode cX3_flip 5 = .ok (.aload_n 0, 1) := by decide +kernel
theorem dX3_flip_6 : decode cX3_flip 6 = .ok (.getfield 13, 3) := by decide +kernel
theorem dX3_flip_9 : decode cX3_flip 9 = .ok (.iload_n 1, 1) := by decide +kernel
theorem dX3_flip_10 : decode cX3_flip 10 = .ok (.laload, 1) := by decide +kernel
theorem dX3_flip_11 : decode cX3_flip 11 = .ok (.bipush 52, 2) := by decide +kernel
theorem dX3_flip_13 : decode cX3_flip 13 = .ok (.invokestatic 80, 3) := by decide +kernel
theorem dX3_flip_16 : decode cX3_flip 16 = .ok (.lastore, 1) := by decide +kernel
theorem dX3_flip_17 : decode cX3_flip 17 = .ok (.aload_n 0, 1) := by decide +kernel
theorem dX3_flip_18 : decode cX3_flip 18 = .ok (.getfield 17, 3) := by decide +kernel
theorem dX3_flip_21 : decode cX3_flip 21 = .ok (.iload_n 1, 1) := by decide +kernel
theorem dX3_flip_22 : decode cX3_flip 22 = .ok (.aload_n 0, 1) := by decide +kernel
theorem dX3_flip_23 : decode cX3_flip 23 = .ok (.getfield 17, 3) := by decide +kernel
theorem dX3_flip_26 : decode cX3_flip 26 = .ok (.iload_n 1, 1) := by decide +kernel
theorem dX3_flip_27 : decode cX3_flip 27 = .ok (.iaload, 1) := by decide +kernel
theorem dX3_flip_28 : decode cX3_flip 28 = .ok (.invokestatic 130, 3) := by decide +kernel
theorem dX3_flip_31 : decode cX3_flip 31 = .ok (.iastore, 1) := by decide +kernel
theorem dX3_flip_32 : decode cX3_flip 32 = .ok (.aload_n 0, 1) := by decide +kernel
theorem dX3_flip_33 : decode cX3_flip 33 = .ok (.getfield 21, 3) := by decide +kernel
theorem dX3_flip_36 : decode cX3_flip 36 = .ok (.iload_n 1, 1) := by decide +kernel
theorem dX3_flip_37 : decode cX3_flip 37 = .ok (.aload_n 0, 1) := by decide +kernel
theorem dX3_flip_38 : decode cX3_flip 38 = .ok (.getfield 21, 3) := by decide +kernel
theorem dX3_flip_41 : decode cX3_flip 41 = .ok (.iload_n 1, 1) := by decide +kernel
theorem dX3_flip_42 : decode cX3_flip 42 = .ok (.iaload, 1) := by decide +kernel
theorem dX3_flip_43 : decode cX3_flip 43 = .ok (.ifCond .ge 13, 3) := by decide +kernel
theorem dX3_flip_46 : decode cX3_flip 46 = .ok (.aload_n 0, 1) := by decide +kernel
theorem dX3_flip_47 : decode cX3_flip 47 = .ok (.getfield 21, 3) := by decide +kernel
theorem dX3_flip_50 : decode cX3_flip 50 = .ok (.iload_n 1, 1) := by decide +kernel
theorem dX3_flip_51 : decode cX3_flip 51 = .ok (.iaload, 1) := by decide +kernel
theorem dX3_flip_52 : decode cX3_flip 52 = .ok (.ineg, 1) := by decide +kernel
theorem dX3_flip_53 : decode cX3_flip 53 = .ok (.goto 9, 3) := by decide +kernel
theorem dX3_flip_56 : decode cX3_flip 56 = .ok (.aload_n 0, 1) := by decide +kernel
theorem dX3_flip_57 : decode cX3_flip 57 = .ok (.getfield 21, 3) := by decide +kernel
theorem dX3_flip_60 : decode cX3_flip 60 = .ok (.iload_n 1, 1) := by decide +kernel
theorem dX3_flip_61 : decode cX3_flip 61 = .ok (.iaload, 1) := by decide +kernel
theorem dX3_flip_62 : decode cX3_flip 62 = .ok (.iastore, 1) := by decide +kernel
theorem dX3_flip_63 : decode cX3_flip 63 = .ok (.aload_n 0, 1) := by decide +kernel
theorem dX3_flip_64 : decode cX3_flip 64 = .ok (.getfield 24, 3) := by decide +kernel
theorem dX3_flip_67 : decode cX3_flip 67 = .ok (.iload_n 1, 1) := by decide +kernel
theorem dX3_flip_68 : decode cX3_flip 68 = .ok (.aload_n 0, 1) := by decide +kernel
theorem dX3_flip_69 : decode cX3_flip 69 = .ok (.getfield 24, 3) := by decide +kernel
theorem dX3_flip_72 : decode cX3_flip 72 = .ok (.iload_n 1, 1) := by decide +kernel
theorem dX3_flip_73 : decode cX3_flip 73 = .ok (.laload, 1) := by decide +kernel
theorem dX3_flip_74 : decode cX3_flip 74 = .ok (.lconst 0, 1) := by decide +kernel
theorem dX3_flip_75 : decode cX3_flip 75 = .ok (.lcmp, 1) := by decide +kernel
theorem dX3_flip_76 : decode cX3_flip 76 = .ok (.ifCond .ge 13, 3) := by decide +kernel
theorem dX3_flip_79 : decode cX3_flip 79 = .ok (.aload_n 0, 1) := by decide +kernel
theorem dX3_flip_80 : decode cX3_flip 80 = .ok (.getfield 24, 3) := by decide +kernel
theorem dX3_flip_83 : decode cX3_flip 83 = .ok (.iload_n 1, 1) := by decide +kernel
theorem dX3_flip_84 : decode cX3_flip 84 = .ok (.laload, 1) := by decide +kernel
theorem dX3_flip_85 : decode cX3_flip 85 = .ok (.lneg, 1) := by decide +kernel
theorem dX3_flip_86 : decode cX3_flip 86 = .ok (.goto 9, 3) := by decide +kernel
theorem dX3_flip_89 : decode cX3_flip 89 = .ok (.aload_n 0, 1) := by decide +kernel
theorem dX3_flip_90 : decode cX3_flip 90 = .ok (.getfield 24, 3) := by decide +kernel
theorem dX3_flip_93 : decode cX3_flip 93 = .ok (.iload_n 1, 1) := by decide +kernel
theorem dX3_flip_94 : decode cX3_flip 94 = .ok (.laload, 1) := by decide +kernel
theorem dX3_flip_95 : decode cX3_flip 95 = .ok (.lastore, 1) := by decide +kernel
theorem dX3_flip_96 : decode cX3_flip 96 = .ok (.return_, 1) := by decide +kernel
set_option maxRecDepth 20000 in
theorem ggX3_stretch_X3_greater : GoodIn wsX3_stretch wsX3_greater := goodIn_r _ [8, 9, 10, 7, 11, 12] (by decide +kernel) (by decide +kernel)
set_option maxRecDepth 20000 in
theorem gX3_stretch_X3_greater : GoodIn wsX3_stretch (va_wsS RX3 133 yX3_greater wsX3_greater) := goodIn_app (goodIn_of _ (by decide +kernel)) ggX3_stretch_X3_greater
set_option maxRecDepth 20000 in
theorem ggX3_stretch_X3_greater4 : GoodIn wsX3_stretch wsX3_greater4 := goodIn_r _ [15, 16, 17, 7, 18, 19] (by decide +kernel) (by decide +kernel)
set_option maxRecDepth 20000 in
theorem gX3_stretch_X3_greater4 : GoodIn wsX3_stretch (va_wsS RX3 137 yX3_greater4 wsX3_greater4) := goodIn_app (goodIn_of _ (by decide +kernel)) ggX3_stretch_X3_greater4
theorem dX3_stretch_0 : decode cX3_stretch 0 = .ok (.aload_n 0, 1) := by decide +kernel
theorem dX3_stretch_1 : decode cX3_stretch 1 = .ok (.getfield 13, 3) := by decide +kernel
theorem dX3_stretch_4 : decode cX3_stretch 4 = .ok (.iload_n 1, 1) := by decide +kernel
theorem dX3_stretch_5 : decode cX3_stretch 5 = .ok (.aload_n 0, 1) := by decide +kernel
theorem dX3_stretch_6 : decode cX3_stretch 6 = .ok (.getfield 13, 3) := by decide +kernel
theorem dX3_stretch_9 : decode cX3_stretch 9 = .ok (.iload_n 1, 1) := by decide +kernel
theorem dX3_stretch_10 : decode cX3_stretch 10 = .ok (.laload, 1) := by decide +kernel
theorem dX3_stretch_11 : decode cX3_stretch 11 = .ok (.aload_n 0, 1) := by decide +kernel
theorem dX3_stretch_12 : decode cX3_stretch 12 = .ok (.getfield 13, 3) := by decide +kernel
theorem dX3_stretch_15 : decode cX3_stretch 15 = .ok (.iload_n 2, 1) := by decide +kernel
theorem dX3_stretch_16 : decode cX3_stretch 16 = .ok (.laload, 1) := by decide +kernel
theorem dX3_stretch_17 : decode cX3_stretch 17 = .ok (.invokestatic 133, 3) := by decide +kernel
theorem dX3_stretch_20 : decode cX3_stretch 20 = .ok (.lastore, 1) := by decide +kernel
theorem dX3_stretch_21 : decode cX3_stretch 21 = .ok (.aload_n 0, 1) := by decide +kernel
theorem dX3_stretch_22 : decode cX3_stretch 22 = .ok (.getfield 17, 3) := by decide +kernel
theorem dX3_stretch_25 : decode cX3_stretch 25 = .ok (.iload_n 1, 1) := by decide +kernel
theorem dX3_stretch_26 : decode cX3_stretch 26 = .ok (.aload_n 0, 1) := by decide +kernel
theorem dX3_stretch_27 : decode cX3_stretch 27 = .ok (.getfield 17, 3) := by decide +kernel
theorem dX3_stretch_30 : decode cX3_stretch 30 = .ok (.iload_n 1, 1) := by decide +kernel
theorem dX3_stretch_31 : decode cX3_stretch 31 = .ok (.iaload, 1) := by decide +kernel
theorem dX3_stretch_32 : decode cX3_stretch 32 = .ok (.aload_n 0, 1) := by decide +kernel
theorem dX3_stretch_33 : decode cX3_stretch 33 = .ok (.getfield 17, 3) := by decide +kernel
theorem dX3_stretch_36 : decode cX3_stretch 36 = .ok (.iload_n 2, 1) := by decide +kernel
theorem dX3_stretch_37 : decode cX3_stretch 37 = .ok (.iaload, 1) := by decide +kernel
theorem dX3_stretch_38 : decode cX3_stretch 38 = .ok (.invokestatic 137, 3) := by decide +kernel
theorem dX3_stretch_41 : decode cX3_stretch 41 = .ok (.iastore, 1) := by decide +kernel
theorem dX3_stretch_42 : decode cX3_stretch 42 = .ok (.aload_n 0, 1) := by decide +kernel
theorem dX3_stretch_43 : decode cX3_stretch 43 = .ok (.getfield 21, 3) := by decide +kernel
theorem dX3_stretch_46 : decode cX3_stretch 46 = .ok (.iload_n 1, 1) := by decide +kernel
theorem dX3_stretch_47 : decode cX3_stretch 47 = .ok (.aload_n 0, 1) := by decide +kernel
theorem dX3_stretch_48 : decode cX3_stretch 48 = .ok (.getfield 21, 3) := by decide +kernel
theorem dX3_stretch_51 : decode cX3_stretch 51 = .ok (.iload_n 2, 1) := by decide +kernel
theorem dX3_stretch_52 : decode cX3_stretch 52 = .ok (.iaload, 1) := by decide +kernel
theorem dX3_stretch_53 : decode cX3_stretch 53 = .ok (.aload_n 0, 1) := by decide +kernel
theorem dX3_stretch_54 : decode cX3_stretch 54 = .ok (.getfield 21, 3) := by decide +kernel
theorem dX3_stretch_57 : decode cX3_stretch 57 = .ok (.iload_n 1, 1) := by decide +kernel
theorem dX3_stretch_58 : decode cX3_stretch 58 = .ok (.iaload, 1) := by decide +kernel
theorem dX3_stretch_59 : decode cX3_stretch 59 = .ok (.if_icmp .le 12, 3) := by decide +kernel
theorem dX3_stretch_62 : decode cX3_stretch 62 = .ok (.aload_n 0, 1) := by decide +kernel
theorem dX3_stretch_63 : decode cX3_stretch 63 = .ok (.getfield 21, 3) := by decide +kernel
theorem dX3_stretch_66 : decode cX3_stretch 66 = .ok (.iload_n 2, 1) := by decide +kernel
theorem dX3_stretch_67 : decode cX3_stretch 67 = .ok (.iaload, 1) := by decide +kernel
theorem dX3_stretch_68 : decode cX3_stretch 68 = .ok (.goto 9, 3) := by decide +kernel
theorem dX3_stretch_71 : decode cX3_stretch 71 = .ok (.aload_n 0, 1) := by decide +kernel
theorem dX3_stretch_72 : decode cX3_stretch 72 = .ok (.getfield 21, 3) := by decide +kernel
theorem dX3_stretch_75 : decode cX3_stretch 75 = .ok (.iload_n 1, 1) := by decide +kernel
theorem dX3_stretch_76 : decode cX3_stretch 76 = .ok (.iaload, 1) := by decide +kernel
theorem dX3_stretch_77 : decode cX3_stretch 77 = .ok (.iastore, 1) := by decide +kernel
theorem dX3_stretch_78 : decode cX3_stretch 78 = .ok (.aload_n 0, 1) := by decide +kernel
theorem dX3_stretch_79 : decode cX3_stretch 79 = .ok (.getfield 24, 3) := by decide +kernel
theorem dX3_stretch_82 : decode cX3_stretch 82 = .ok (.iload_n 1, 1) := by decide +kernel
theorem dX3_stretch_83 : decode cX3_stretch 83 = .ok (.aload_n 0, 1) := by decide +kernel
theorem dX3_stretch_84 : decode cX3_stretch 84 = .ok (.getfield 24, 3) := by decide +kernel
theorem dX3_stretch_87 : decode cX3_stretch 87 = .ok (.iload_n 2, 1) := by decide +kernel
theorem dX3_stretch_88 : decode cX3_stretch 88 = .ok (.laload, 1) := by decide +kernel
theorem dX3_stretch_89 : decode cX3_stretch 89 = .ok (.aload_n 0, 1) := by decide +kernel
theorem dX3_stretch_90 : decode cX3_stretch 90 = .ok (.getfield 24, 3) := by decide +kernel
theorem dX3_stretch_93 : decode cX3_stretch 93 = .ok (.iload_n 1, 1) := by decide +kernel
theorem dX3_stretch_94 : decode cX3_stretch 94 = .ok (.laload, 1) := by decide +kernel
theorem dX3_stretch_95 : decode cX3_stretch 95 = .ok (.lcmp, 1) := by decide +kernel
theorem dX3_stretch_96 : decode cX3_stretch 96 = .ok (.ifCond .le 12, 3) := by decide +kernel
theorem dX3_stretch_99 : decode cX3_stretch 99 = .ok (.aload_n 0, 1) := by decide +kernel
theorem dX3_stretch_100 : decode cX3_stretch 100 = .ok (.getfield 24, 3) := by decide +kernel
theorem dX3_stretch_103 : decode cX3_stretch 103 = .ok (.iload_n 2, 1) := by decide +kernel
theorem dX3_stretch_104 : decode cX3_stretch 104 = .ok (.laload, 1) := by decide +kernel
theorem dX3_stretch_105 : decode cX3_stretch 105 = .ok (.goto 9, 3) := by decide +kernel
theorem dX3_stretch_108 : decode cX3_stretch 108 = .ok (.aload_n 0, 1) := by decide +kernel
theorem dX3_stretch_109 : decode cX3_stretch 109 = .ok (.getfield 24, 3) := by decide +kernel
theorem dX3_stretch_112 : decode cX3_stretch 112 = .ok (.iload_n 1, 1) := by decide +kernel
theorem dX3_stretch_113 : decode cX3_stretch 113 = .ok (.laload, 1) := by decide +kernel
theorem dX3_stretch_114 : decode cX3_stretch 114 = .ok (.lastore, 1) := by decide +kernel
theorem dX3_stretch_115 : decode cX3_stretch 115 = .ok (.return_, 1) := by decide +kernel
set_option maxRecDepth 20000 in
theorem ggX3_ease_X3_lesser : GoodIn wsX3_ease wsX3_lesser := goodIn_r _ [8, 9, 10, 7, 11, 12] (by decide +kernel) (by decide +kernel)
set_option maxRecDepth 20000 in
theorem gX3_ease_X3_lesser : GoodIn wsX3_ease (va_wsS RX3 141 yX3_lesser wsX3_lesser) := goodIn_app (goodIn_of _ (by decide +kernel)) ggX3_ease_X3_lesser
set_option maxRecDepth 20000 in
theorem ggX3_ease_X3_lesser4 : GoodIn wsX3_ease wsX3_lesser4 := goodIn_r _ [15, 16, 17, 7, 18, 19] (by decide +kernel) (by decide +kernel)
set_option maxRecDepth 20000 in
theorem gX3_ease_X3_lesser4 : GoodIn wsX3_ease (va_wsS RX3 144 yX3_lesser4 wsX3_lesser4) := goodIn_app (goodIn_of _ (by decide +kernel)) ggX3_ease_X3_lesser4
theorem dX3_ease_0 : decode cX3_ease 0 = .ok (.aload_n 0, 1) := by decide +kernel
theorem dX3_ease_1 : decode cX3_ease 1 = .ok (.getfield 13, 3) := by decide +kernel
theorem dX3_ease_4 : decode cX3_ease 4 = .ok (.iload_n 1, 1) := by decide +kernel
theorem dX3_ease_5 : decode cX3_ease 5 = .ok (.aload_n 0, 1) := by decide +kernel
theorem dX3_ease_6 : decode cX3_ease 6 = .ok (.getfield 13, 3) := by decide +kernel
theorem dX3_ease_9 : decode cX3_ease 9 = .ok (.iload_n 1, 1) := by decide +kernel
theorem dX3_ease_10 : decode cX3_ease 10 = .ok (.laload, 1) := by decide +kernel
theorem dX3_ease_11 : decode cX3_ease 11 = .ok (.aload_n 0, 1) := by decide +kernel
theorem dX3_ease_12 : decode cX3_ease 12 = .ok (.getfield 13, 3) := by decide +kernel
theorem dX3_ease_15 : decode cX3_ease 15 = .ok (.iload_n 2, 1) := by decide +kernel
theorem dX3_ease_16 : decode cX3_ease 16 = .ok (.laload, 1) := by decide +kernel
theorem dX3_ease_17 : decode cX3_ease 17 = .ok (.invokestatic 141, 3) := by decide +kernel
theorem dX3_ease_20 : decode cX3_ease 20 = .ok (.lastore, 1) := by decide +kernel
theorem dX3_ease_21 : decode cX3_ease 21 = .ok (.aload_n 0, 1) := by decide +kernel
theorem dX3_ease_22 : decode cX3_ease 22 = .ok (.getfield 17, 3) := by decide +kernel
theorem dX3_ease_25 : decode cX3_ease 25 = .ok (.iload_n 1, 1) := by decide +kernel
theorem dX3_ease_26 : decode cX3_ease 26 = .ok (.aload_n 0, 1) := by decide +kernel
theorem dX3_ease_27 : decode cX3_ease 27 = .ok (.getfield 17, 3) := by decide +kernel
theorem dX3_ease_30 : decode cX3_ease 30 = .ok (.iload_n 1, 1) := by decide +kernel
theorem dX3_ease_31 : decode cX3_ease 31 = .ok (.iaload, 1) := by decide +kernel
theorem dX3_ease_32 : decode cX3_ease 32 = .ok (.aload_n 0, 1) := by decide +kernel
theorem dX3_ease_33 : decode cX3_ease 33 = .ok (.getfield 17, 3) := by decide +kernel
theorem dX3_ease_36 : decode cX3_ease 36 = .ok (.iload_n 2, 1) := by decide +kernel
theorem dX3_ease_37 : decode cX3_ease 37 = .ok (.iaload, 1) := by decide +kernel
theorem dX3_ease_38 : decode cX3_ease 38 = .ok (.invokestatic 144, 3) := by decide +kernel
theorem dX3_ease_41 : decode cX3_ease 41 = .ok (.iastore, 1) := by decide +kernel
theorem dX3_ease_42 : decode cX3_ease 42 = .ok (.aload_n 0, 1) := by decide +kernel
theorem dX3_ease_43 : decode cX3_ease 43 = .ok (.getfield 21, 3) := by decide +kernel
theorem dX3_ease_46 : decode cX3_ease 46 = .ok (.iload_n 1, 1) := by decide +kernel
theorem dX3_ease_47 : decode cX3_ease 47 = .ok (.aload_n 0, 1) := by decide +kernel
theorem dX3_ease_48 : decode cX3_ease 48 = .ok (.getfield 21, 3) := by decide +kernel
theorem dX3_ease_51 : decode cX3_ease 51 = .ok (.iload_n 2, 1) := by decide +kernel
theorem dX3_ease_52 : decode cX3_ease 52 = .ok (.iaload, 1) := by decide +kernel
theorem dX3_ease_53 : decode cX3_ease 53 = .ok (.aload_n 0, 1) := by decide +kernel
theorem dX3_ease_54 : decode cX3_ease 54 = .ok (.getfield 21, 3) := by decide +kernel
theorem dX3_ease_57 : decode cX3_ease 57 = .ok (.iload_n 1, 1) := by decide +kernel
theorem dX3_ease_58 : decode cX3_ease 58 = .ok (.iaload, 1) := by decide +kernel
theorem dX3_ease_59 : decode cX3_ease 59 = .ok (.if_icmp .ge 12, 3) := by decide +kernel
theorem dX3_ease_62 : decode cX3_ease 62 = .ok (.aload_n 0, 1) := by decide +kernel
theorem dX3_ease_63 : decode cX3_ease 63 = .ok (.getfield 21, 3) := by decide +kernel
theorem dX3_ease_66 : decode cX3_ease 66 = .ok (.iload_n 2, 1) := by decide +kernel
theorem dX3_ease_67 : decode cX3_ease 67 = .ok (.iaload, 1) := by decide +kernel
theorem dX3_ease_68 : decode cX3_ease 68 = .ok (.goto 9, 3) := by decide +kernel
theorem dX3_ease_71 : decode cX3_ease 71 = .ok (.aload_n 0, 1) := by decide +kernel
theorem dX3_ease_72 : decode cX3_ease 72 = .ok (.getfield 21, 3) := by decide +kernel
theorem dX3_ease_75 : decode cX3_ease 75 = .ok (.iload_n 1, 1) := by decide +kernel
theorem dX3_ease_76 : decode cX3_ease 76 = .ok (.iaload, 1) := by decide +kernel
theorem dX3_ease_77 : decode cX3_ease 77 = .ok (.iastore, 1) := by decide +kernel
theorem dX3_ease_78 : decode cX3_ease 78 = .ok (.aload_n 0, 1) := by decide +kernel
theorem dX3_ease_79 : decode cX3_ease 79 = .ok (.getfield 24, 3) := by decide +kernel
theorem dX3_ease_82 : decode cX3_ease 82 = .ok (.iload_n 1, 1) := by decide +kernel
theorem dX3_ease_83 : decode cX3_ease 83 = .ok (.aload_n 0, 1) := by decide +kernel
theorem dX3_ease_84 : decode cX3_ease 84 = .ok (.getfield 24, 3) := by decide +kernel
theorem dX3_ease_87 : decode cX3_ease 87 = .ok (.iload_n 2, 1) := by decide +kernel
theorem dX3_ease_88 : decode cX3_ease 88 = .ok (.laload, 1) := by decide +kernel
theorem dX3_ease_89 : decode cX3_ease 89 = .ok (.aload_n 0, 1) := by decide +kernel
theorem dX3_ease_90 : decode cX3_ease 90 = .ok (.getfield 24, 3) := by decide +kernel
theorem dX3_ease_93 : decode cX3_ease 93 = .ok (.iload_n 1, 1) := by decide +kernel
theorem dX3_ease_94 : decode cX3_ease 94 = .ok (.laload, 1) := by decide +kernel
theorem dX3_ease_95 : decode cX3_ease 95 = .ok (.lcmp, 1) := by decide +kernel
theorem dX3_ease_96 : decode cX3_ease 96 = .ok (.ifCond .ge 12, 3) := by decide +kernel
theorem dX3_ease_99 : decode cX3_ease 99 = .ok (.aload_n 0, 1) := by decide +kernel
theorem dX3_ease_100 : decode cX3_ease 100 = .ok (.getfield 24, 3) := by decide +kernel
theorem dX3_ease_103 : decode cX3_ease 103 = .ok (.iload_n 2, 1) := by decide +kernel
theorem dX3_ease_104 : decode cX3_ease 104 = .ok (.laload, 1) := by decide +kernel
theorem dX3_ease_105 : decode cX3_ease 105 = .ok (.goto 9, 3) := by decide +kernel
theorem dX3_ease_108 : decode cX3_ease 108 = .ok (.aload_n 0, 1) := by decide +kernel
theorem dX3_ease_109 : decode cX3_ease 109 = .ok (.getfield 24, 3) := by decide +kernel
theorem dX3_ease_112 : decode cX3_ease 112 = .ok (.iload_n 1, 1) := by decide +kernel
theorem dX3_ease_113 : decode cX3_ease 113 = .ok (.laload, 1) := by decide +kernel
theorem dX3_ease_114 : decode cX3_ease 114 = .ok (.lastore, 1) := by decide +kernel
theorem dX3_ease_115 : decode cX3_ease 115 = .ok (.return_, 1) := by decide +kernel
set_option maxRecDepth 20000 in
theorem ggX3_wholes_X3_thin : GoodIn wsX3_wholes wsX3_thin := goodIn_r _ [6, 7] (by decide +kernel) (by decide +kernel)
set_option maxRecDepth 20000 in
theorem gX3_wholes_X3_thin : GoodIn wsX3_wholes (va_wsS RX3 121 yX3_thin wsX3_thin) := goodIn_app (goodIn_of _ (by decide +kernel)) ggX3_wholes_X3_thin
set_option maxRecDepth 20000 in
theorem ggX3_wholes_X3_down : GoodIn wsX3_wholes wsX3_down := goodIn_r _ [10, 11, 12, 13, 5, 14, 15, 16, 17, 18, 19, 20, 21, 22, 23, 24, 25, 26, 27, 28, 29, 30] (by decide +kernel) (by decide +kernel)
set_option maxRecDepth 20000 in
theorem gX3_wholes_X3_down : GoodIn wsX3_wholes (va_wsS RX3 91 yX3_down wsX3_down) := goodIn_app (goodIn_of _ (by decide +kernel)) ggX3_wholes_X3_down
set_option maxRecDepth 20000 in
theorem ggX3_wholes_X3_up : GoodIn wsX3_wholes wsX3_up := goodIn_r _ [33, 15, 16, 5, 17, 18, 19, 8, 9, 10, 11, 12, 13, 14, 20, 21, 22, 23, 24, 25, 26, 27, 28, 29, 30] (by decide +kernel) (by decide +kernel)
set_option maxRecDepth 20000 in
theorem gX3_wholes_X3_up : GoodIn wsX3_wholes (va_wsS RX3 147 yX3_up wsX3_up) := goodIn_app (goodIn_of _ (by decide +kernel)) ggX3_wholes_X3_up
set_option maxRecDepth 20000 in
theorem ggX3_wholes_X3_near : GoodIn wsX3_wholes wsX3_near := goodIn_r _ [36, 11, 37, 12, 13, 5, 14, 15, 16, 17, 18, 19, 20, 21, 22, 23, 24, 25, 26, 27] (by decide +kernel) (by decide +kernel)
set_option maxRecDepth 20000 in
theorem gX3_wholes_X3_near : GoodIn wsX3_wholes (va_wsS RX3 150 yX3_near wsX3_near) := goodIn_app (goodIn_of _ (by decide +kernel)) ggX3_wholes_X3_near
theorem dX3_wholes_0 : decode cX3_wholes 0 = .ok (.aload_n 0, 1) := by decide +kernel
theorem dX3_wholes_1 : decode cX3_wholes 1 = .ok (.getfield 17, 3) := by decide +kernel
theorem dX3_wholes_4 : decode cX3_wholes 4 = .ok (.iload_n 2, 1) := by decide +kernel
theorem dX3_wholes_5 : decode cX3_wholes 5 = .ok (.iaload, 1) := by decide +kernel
theorem dX3_wholes_6 : decode cX3_wholes 6 = .ok (.invokestatic 121, 3) := by decide +kernel
theorem dX3_wholes_9 : decode cX3_wholes 9 = .ok (.lstore_n 3, 1) := by decide +kernel
theorem dX3_wholes_10 : decode cX3_wholes 10 = .ok (.aload_n 0, 1) := by decide +kernel
theorem dX3_wholes_11 : decode cX3_wholes 11 = .ok (.getfield 13, 3) := by decide +kernel
theorem dX3_wholes_14 : decode cX3_wholes 14 = .ok (.iload_n 2, 1) := by decide +kernel
theorem dX3_wholes_15 : decode cX3_wholes 15 = .ok (.iload_n 1, 1) := by decide +kernel
theorem dX3_wholes_16 : decode cX3_wholes 16 = .ok (.iconst 3, 1) := by decide +kernel
theorem dX3_wholes_17 : decode cX3_wholes 17 = .ok (.if_icmp .ne 17, 3) := by decide +kernel
theorem dX3_wholes_20 : decode cX3_wholes 20 = .ok (.aload_n 0, 1) := by decide +kernel
theorem dX3_wholes_21 : decode cX3_wholes 21 = .ok (.getfield 13, 3) := by decide +kernel
theorem dX3_wholes_24 : decode cX3_wholes 24 = .ok (.iload_n 2, 1) := by decide +kernel
theorem dX3_wholes_25 : decode cX3_wholes 25 = .ok (.laload, 1) := by decide +kernel
theorem dX3_wholes_26 : decode cX3_wholes 26 = .ok (.bipush 52, 2) := by decide +kernel
theorem dX3_wholes_28 : decode cX3_wholes 28 = .ok (.invokestatic 91, 3) := by decide +kernel
theorem dX3_wholes_31 : decode cX3_wholes 31 = .ok (.goto 33, 3) := by decide +kernel
theorem dX3_wholes_34 : decode cX3_wholes 34 = .ok (.iload_n 1, 1) := by decide +kernel
theorem dX3_wholes_35 : decode cX3_wholes 35 = .ok (.iconst 4, 1) := by decide +kernel
theorem dX3_wholes_36 : decode cX3_wholes 36 = .ok (.if_icmp .ne 17, 3) := by decide +kernel
theorem dX3_wholes_39 : decode cX3_wholes 39 = .ok (.aload_n 0, 1) := by decide +kernel
theorem dX3_wholes_40 : decode cX3_wholes 40 = .ok (.getfield 13, 3) := by decide +kernel
theorem dX3_wholes_43 : decode cX3_wholes 43 = .ok (.iload_n 2, 1) := by decide +kernel
theorem dX3_wholes_44 : decode cX3_wholes 44 = .ok (.laload, 1) := by decide +kernel
theorem dX3_wholes_45 : decode cX3_wholes 45 = .ok (.bipush 52, 2) := by decide +kernel
theorem dX3_wholes_47 : decode cX3_wholes 47 = .ok (.invokestatic 147, 3) := by decide +kernel
theorem dX3_wholes_50 : decode cX3_wholes 50 = .ok (.goto 14, 3) := by decide +kernel
theorem dX3_wholes_53 : decode cX3_wholes 53 = .ok (.aload_n 0, 1) := by decide +kernel
theorem dX3_wholes_54 : decode cX3_wholes 54 = .ok (.getfield 13, 3) := by decide +kernel
theorem dX3_wholes_57 : decode cX3_wholes 57 = .ok (.iload_n 2, 1) := by decide +kernel
theorem dX3_wholes_58 : decode cX3_wholes 58 = .ok (.laload, 1) := by decide +kernel
theorem dX3_wholes_59 : decode cX3_wholes 59 = .ok (.bipush 52, 2) := by decide +kernel
theorem dX3_wholes_61 : decode cX3_wholes 61 = .ok (.invokestatic 150, 3) := by decide +kernel
theorem dX3_wholes_64 : decode cX3_wholes 64 = .ok (.lastore, 1) := by decide +kernel
theorem dX3_wholes_65 : decode cX3_wholes 65 = .ok (.aload_n 0, 1) := by decide +kernel
theorem dX3_wholes_66 : decode cX3_wholes 66 = .ok (.getfield 17, 3) := by decide +kernel
theorem dX3_wholes_69 : decode cX3_wholes 69 = .ok (.iload_n 2, 1) := by decide +kernel
theorem dX3_wholes_70 : decode cX3_wholes 70 = .ok (.iload_n 1, 1) := by decide +kernel
theorem dX3_wholes_71 : decode cX3_wholes 71 = .ok (.iconst 3, 1) := by decide +kernel
theorem dX3_wholes_72 : decode cX3_wholes 72 = .ok (.if_icmp .ne 12, 3) := by decide +kernel
theorem dX3_wholes_75 : decode cX3_wholes 75 = .ok (.lload_n 3, 1) := by decide +kernel
theorem dX3_wholes_76 : decode cX3_wholes 76 = .ok (.bipush 23, 2) := by decide +kernel
theorem dX3_wholes_78 : decode cX3_wholes 78 = .ok (.invokestatic 91, 3) := by decide +kernel
theorem dX3_wholes_81 : decode cX3_wholes 81 = .ok (.goto 23, 3) := by decide +kernel
theorem dX3_wholes_84 : decode cX3_wholes 84 = .ok (.iload_n 1, 1) := by decide +kernel
theorem dX3_wholes_85 : decode cX3_wholes 85 = .ok (.iconst 4, 1) := by decide +kernel
theorem dX3_wholes_86 : decode cX3_wholes 86 = .ok (.if_icmp .ne 12, 3) := by decide +kernel
theorem dX3_wholes_89 : decode cX3_wholes 89 = .ok (.lload_n 3, 1) := by decide +kernel
theorem dX3_wholes_90 : decode cX3_wholes 90 = .ok (.bipush 23, 2) := by decide +kernel
theorem dX3_wholes_92 : decode cX3_wholes 92 = .ok (.invokestatic 147, 3) := by decide +kernel
theorem dX3_wholes_95 : decode cX3_wholes 95 = .ok (.goto 9, 3) := by decide +kernel
theorem dX3_wholes_98 : decode cX3_wholes 98 = .ok (.lload_n 3, 1) := by decide +kernel
theorem dX3_wholes_99 : decode cX3_wholes 99 = .ok (.bipush 23, 2) := by decide +kernel
theorem dX3_wholes_101 : decode cX3_wholes 101 = .ok (.invokestatic 150, 3) := by decide +kernel
theorem dX3_wholes_104 : decode cX3_wholes 104 = .ok (.l2i, 1) := by decide +kernel
theorem dX3_wholes_105 : decode cX3_wholes 105 = .ok (.iastore, 1) := by decide +kernel
theorem dX3_wholes_106 : decode cX3_wholes 106 = .ok (.return_, 1) := by decide +kernel
set_option maxRecDepth 20000 in
theorem ggX3_lean_X3_thin : GoodIn wsX3_lean wsX3_thin := goodIn_r _ [8, 9] (by decide +kernel) (by decide +kernel)
set_option maxRecDepth 20000 in
theorem gX3_lean_X3_thin : GoodIn wsX3_lean (va_wsS RX3 121 yX3_thin wsX3_thin) := goodIn_app (goodIn_of _ (by decide +kernel)) ggX3_lean_X3_thin
set_option maxRecDepth 20000 in
theorem ggX3_lean_X3_amount : GoodIn wsX3_lean wsX3_amount := goodIn_r _ [12, 13, 14, 15, 7, 16, 17, 18] (by decide +kernel) (by decide +kernel)
set_option maxRecDepth 20000 in
theorem gX3_lean_X3_amount : GoodIn wsX3_lean (va_wsS RX3 80 yX3_amount wsX3_amount) := goodIn_app (goodIn_of _ (by decide +kernel)) ggX3_lean_X3_amount
set_option maxRecDepth 20000 in
theorem ggX3_lean_X3_sign : GoodIn wsX3_lean wsX3_sign := goodIn_r _ [16, 17, 18] (by decide +kernel) (by decide +kernel)
set_option maxRecDepth 20000 in
theorem gX3_lean_X3_sign : GoodIn wsX3_lean (va_wsS RX3 62 yX3_sign wsX3_sign) := goodIn_app (goodIn_of _ (by decide +kernel)) ggX3_lean_X3_sign
set_option maxRecDepth 20000 in
theorem ggX3_lean_X3_one : GoodIn wsX3_lean wsX3_one := goodIn_r _ [21, 22, 23, 7, 24, 25, 26] (by decide +kernel) (by decide +kernel)
set_option maxRecDepth 20000 in
theorem gX3_lean_X3_one : GoodIn wsX3_lean (va_wsS RX3 84 yX3_one wsX3_one) := goodIn_app (goodIn_of _ (by decide +kernel)) ggX3_lean_X3_one
theorem dX3_lean_0 : decode cX3_lean 0 = .ok (.aload_n 0, 1) := by decide +kernel
theorem dX3_lean_1 : decode cX3_lean 1 = .ok (.getfield 17, 3) := by decide +kernel
theorem dX3_lean_4 : decode cX3_lean 4 = .ok (.iload_n 1, 1) := by decide +kernel
theorem dX3_lean_5 : decode cX3_lean 5 = .ok (.iaload, 1) := by decide +kernel
theorem dX3_lean_6 : decode cX3_lean 6 = .ok (.invokestatic 121, 3) := by decide +kernel
theorem dX3_lean_9 : decode cX3_lean 9 = .ok (.lstore_n 2, 1) := by decide +kernel
theorem dX3_lean_10 : decode cX3_lean 10 = .ok (.aload_n 0, 1) := by decide +kernel
theorem dX3_lean_11 : decode cX3_lean 11 = .ok (.aload_n 0, 1) := by decide +kernel
theorem dX3_lean_12 : decode cX3_lean 12 = .ok (.getfield 13, 3) := by decide +kernel
theorem dX3_lean_15 : decode cX3_lean 15 = .ok (.iload_n 1, 1) := by decide +kernel
theorem dX3_lean_16 : decode cX3_lean 16 = .ok (.laload, 1) := by decide +kernel
theorem dX3_lean_17 : decode cX3_lean 17 = .ok (.bipush 52, 2) := by decide +kernel
theorem dX3_lean_19 : decode cX3_lean 19 = .ok (.invokestatic 80, 3) := by decide +kernel
theorem dX3_lean_22 : decode cX3_lean 22 = .ok (.lconst 0, 1) := by decide +kernel
theorem dX3_lean_23 : decode cX3_lean 23 = .ok (.lcmp, 1) := by decide +kernel
theorem dX3_lean_24 : decode cX3_lean 24 = .ok (.ifCond .ne 12, 3) := by decide +kernel
theorem dX3_lean_27 : decode cX3_lean 27 = .ok (.aload_n 0, 1) := by decide +kernel
theorem dX3_lean_28 : decode cX3_lean 28 = .ok (.getfield 13, 3) := by decide +kernel
theorem dX3_lean_31 : decode cX3_lean 31 = .ok (.iload_n 1, 1) := by decide +kernel
theorem dX3_lean_32 : decode cX3_lean 32 = .ok (.laload, 1) := by decide +kernel
theorem dX3_lean_33 : decode cX3_lean 33 = .ok (.goto 21, 3) := by decide +kernel
theorem dX3_lean_36 : decode cX3_lean 36 = .ok (.aload_n 0, 1) := by decide +kernel
theorem dX3_lean_37 : decode cX3_lean 37 = .ok (.getfield 13, 3) := by decide +kernel
theorem dX3_lean_40 : decode cX3_lean 40 = .ok (.iload_n 1, 1) := by decide +kernel
theorem dX3_lean_41 : decode cX3_lean 41 = .ok (.laload, 1) := by decide +kernel
theorem dX3_lean_42 : decode cX3_lean 42 = .ok (.bipush 52, 2) := by decide +kernel
theorem dX3_lean_44 : decode cX3_lean 44 = .ok (.invokestatic 62, 3) := by decide +kernel
theorem dX3_lean_47 : decode cX3_lean 47 = .ok (.land, 1) := by decide +kernel
theorem dX3_lean_48 : decode cX3_lean 48 = .ok (.bipush 52, 2) := by decide +kernel
theorem dX3_lean_50 : decode cX3_lean 50 = .ok (.invokestatic 84, 3) := by decide +kernel
theorem dX3_lean_53 : decode cX3_lean 53 = .ok (.lor, 1) := by decide +kernel
theorem dX3_lean_54 : decode cX3_lean 54 = .ok (.putfield 153, 3) := by decide +kernel
theorem dX3_lean_57 : decode cX3_lean 57 = .ok (.aload_n 0, 1) := by decide +kernel
theorem dX3_lean_58 : decode cX3_lean 58 = .ok (.lload_n 2, 1) := by decide +kernel
theorem dX3_lean_59 : decode cX3_lean 59 = .ok (.bipush 23, 2) := by decide +kernel
theorem dX3_lean_61 : decode cX3_lean 61 = .ok (.invokestatic 80, 3) := by decide +kernel
theorem dX3_lean_64 : decode cX3_lean 64 = .ok (.lconst 0, 1) := by decide +kernel
theorem dX3_lean_65 : decode cX3_lean 65 = .ok (.lcmp, 1) := by decide +kernel
theorem dX3_lean_66 : decode cX3_lean 66 = .ok (.ifCond .ne 7, 3) := by decide +kernel
theorem dX3_lean_69 : decode cX3_lean 69 = .ok (.lload_n 2, 1) := by decide +kernel
theorem dX3_lean_70 : decode cX3_lean 70 = .ok (.goto 16, 3) := by decide +kernel
theorem dX3_lean_73 : decode cX3_lean 73 = .ok (.lload_n 2, 1) := by decide +kernel
theorem dX3_lean_74 : decode cX3_lean 74 = .ok (.bipush 23, 2) := by decide +kernel
theorem dX3_lean_76 : decode cX3_lean 76 = .ok (.invokestatic 62, 3) := by decide +kernel
theorem dX3_lean_79 : decode cX3_lean 79 = .ok (.land, 1) := by decide +kernel
theorem dX3_lean_80 : decode cX3_lean 80 = .ok (.bipush 23, 2) := by decide +kernel
theorem dX3_lean_82 : decode cX3_lean 82 = .ok (.invokestatic 84, 3) := by decide +kernel
theorem dX3_lean_85 : decode cX3_lean 85 = .ok (.lor, 1) := by decide +kernel
theorem dX3_lean_86 : decode cX3_lean 86 = .ok (.l2i, 1) := by decide +kernel
theorem dX3_lean_87 : decode cX3_lean 87 = .ok (.putfield 157, 3) := by decide +kernel
theorem dX3_lean_90 : decode cX3_lean 90 = .ok (.return_, 1) := by decide +kernel
set_option maxRecDepth 20000 in
theorem ggX3_mirror_X3_amount : GoodIn wsX3_mirror wsX3_amount := goodIn_r _ [7, 8, 9, 10, 6, 11, 12, 13] (by decide +kernel) (by decide +kernel)
set_option maxRecDepth 20000 in
theorem gX3_mirror_X3_amount : GoodIn wsX3_mirror (va_wsS RX3 80 yX3_amount wsX3_amount) := goodIn_app (goodIn_of _ (by decide +kernel)) ggX3_mirror_X3_amount
set_option maxRecDepth 20000 in
theorem ggX3_mirror_X3_sign : GoodIn wsX3_mirror wsX3_sign := goodIn_r _ [11, 12, 13] (by decide +kernel) (by decide +kernel)
set_option maxRecDepth 20000 in
theorem gX3_mirror_X3_sign : GoodIn wsX3_mirror (va_wsS RX3 62 yX3_sign wsX3_sign) := goodIn_app (goodIn_of _ (by decide +kernel)) ggX3_mirror_X3_sign
set_option maxRecDepth 20000 in
theorem ggX3_mirror_X3_amount4 : GoodIn wsX3_mirror wsX3_amount4 := goodIn_r _ [16, 17] (by decide +kernel) (by decide +kernel)
set_option maxRecDepth 20000 in
theorem gX3_mirror_X3_amount4 : GoodIn wsX3_mirror (va_wsS RX3 130 yX3_amount4 wsX3_amount4) := goodIn_app (goodIn_of _ (by decide +kernel)) ggX3_mirror_X3_amount4
theorem dX3_mirror_0 : decode cX3_mirror 0 = .ok (.aload_n 0, 1) := by decide +kernel
theorem dX3_mirror_1 : decode cX3_mirror 1 = .ok (.getfield 13, 3) := by decide +kernel
theorem dX3_mirror_4 : decode cX3_mirror 4 = .ok (.iload_n 1, 1) := by decide +kernel
theorem dX3_mirror_5 : decode cX3_mirror 5 = .ok (.aload_n 0, 1) := by decide +kernel
theorem dX3_mirror_6 : decode cX3_mirror 6 = .ok (.getfield 13, 3) := by decide +kernel
theorem dX3_mirror_9 : decode cX3_mirror 9 = .ok (.iload_n 1, 1) := by decide +kernel
theorem dX3_mirror_10 : decode cX3_mirror 10 = .ok (.laload, 1) := by decide +kernel
theorem dX3_mirror_11 : decode cX3_mirror 11 = .ok (.bipush 52, 2) := by decide +kernel
theorem dX3_mirror_13 : decode cX3_mirror 13 = .ok (.invokestatic 80, 3) := by decide +kernel
theorem dX3_mirror_16 : decode cX3_mirror 16 = .ok (.aload_n 0, 1) := by decide +kernel
theorem dX3_mirror_17 : decode cX3_mirror 17 = .ok (.getfield 13, 3) := by decide +kernel
theorem dX3_mirror_20 : decode cX3_mirror 20 = .ok (.iload_n 2, 1) := by decide +kernel
theorem dX3_mirror_21 : decode cX3_mirror 21 = .ok (.laload, 1) := by decide +kernel
theorem dX3_mirror_22 : decode cX3_mirror 22 = .ok (.bipush 52, 2) := by decide +kernel
theorem dX3_mirror_24 : decode cX3_mirror 24 = .ok (.invokestatic 62, 3) := by decide +kernel
theorem dX3_mirror_27 : decode cX3_mirror 27 = .ok (.land, 1) := by decide +kernel
theorem dX3_mirror_28 : decode cX3_mirror 28 = .ok (.lor, 1) := by decide +kernel
theorem dX3_mirror_29 : decode cX3_mirror 29 = .ok (.lastore, 1) := by decide +kernel
theorem dX3_mirror_30 : decode cX3_mirror 30 = .ok (.aload_n 0, 1) := by decide +kernel
theorem dX3_mirror_31 : decode cX3_mirror 31 = .ok (.getfield 17, 3) := by decide +kernel
theorem dX3_mirror_34 : decode cX3_mirror 34 = .ok (.iload_n 1, 1) := by decide +kernel
theorem dX3_mirror_35 : decode cX3_mirror 35 = .ok (.aload_n 0, 1) := by decide +kernel
theorem dX3_mirror_36 : decode cX3_mirror 36 = .ok (.getfield 17, 3) := by decide +kernel
theorem dX3_mirror_39 : decode cX3_mirror 39 = .ok (.iload_n 1, 1) := by decide +kernel
theorem dX3_mirror_40 : decode cX3_mirror 40 = .ok (.iaload, 1) := by decide +kernel
theorem dX3_mirror_41 : decode cX3_mirror 41 = .ok (.invokestatic 130, 3) := by decide +kernel
theorem dX3_mirror_44 : decode cX3_mirror 44 = .ok (.aload_n 0, 1) := by decide +kernel
theorem dX3_mirror_45 : decode cX3_mirror 45 = .ok (.getfield 17, 3) := by decide +kernel
theorem dX3_mirror_48 : decode cX3_mirror 48 = .ok (.iload_n 2, 1) := by decide +kernel
theorem dX3_mirror_49 : decode cX3_mirror 49 = .ok (.iaload, 1) := by decide +kernel
theorem dX3_mirror_50 : decode cX3_mirror 50 = .ok (.ldc 160, 2) := by decide +kernel
theorem dX3_mirror_52 : decode cX3_mirror 52 = .ok (.iand, 1) := by decide +kernel
theorem dX3_mirror_53 : decode cX3_mirror 53 = .ok (.ior, 1) := by decide +kernel
theorem dX3_mirror_54 : decode cX3_mirror 54 = .ok (.iastore, 1) := by decide +kernel
theorem dX3_mirror_55 : decode cX3_mirror 55 = .ok (.return_, 1) := by decide +kernel
set_option maxRecDepth 20000 in
theorem ggX3_stops_X3_lesser : GoodIn wsX3_stops wsX3_lesser := goodIn_r _ [7, 8, 9, 6, 10, 11] (by decide +kernel) (by decide +kernel)
set_option maxRecDepth 20000 in
theorem gX3_stops_X3_lesser : GoodIn wsX3_stops (va_wsS RX3 141 yX3_lesser wsX3_lesser) := goodIn_app (goodIn_of _ (by decide +kernel)) ggX3_stops_X3_lesser
set_option maxRecDepth 20000 in
theorem ggX3_stops_X3_greater : GoodIn wsX3_stops wsX3_greater := goodIn_r _ [14, 8, 9, 6, 10, 11] (by decide +kernel) (by decide +kernel)
set_option maxRecDepth 20000 in
theorem gX3_stops_X3_greater : GoodIn wsX3_stops (va_wsS RX3 133 yX3_greater wsX3_greater) := goodIn_app (goodIn_of _ (by decide +kernel)) ggX3_stops_X3_greater
theorem dX3_stops_0 : decode cX3_stops 0 = .ok (.aload_n 0, 1) := by decide +kernel
theorem dX3_stops_1 : decode cX3_stops 1 = .ok (.getfield 13, 3) := by decide +kernel
theorem dX3_stops_4 : decode cX3_stops 4 = .ok (.iload_n 1, 1) := by decide +kernel
theorem dX3_stops_5 : decode cX3_stops 5 = .ok (.laload, 1) := by decide +kernel
theorem dX3_stops_6 : decode cX3_stops 6 = .ok (.aload_n 0, 1) := by decide +kernel
theorem dX3_stops_7 : decode cX3_stops 7 = .ok (.getfield 13, 3) := by decide +kernel
theorem dX3_stops_10 : decode cX3_stops 10 = .ok (.iload_n 2, 1) := by decide +kernel
theorem dX3_stops_11 : decode cX3_stops 11 = .ok (.laload, 1) := by decide +kernel
theorem dX3_stops_12 : decode cX3_stops 12 = .ok (.invokestatic 141, 3) := by decide +kernel
theorem dX3_stops_15 : decode cX3_stops 15 = .ok (.lstore_n 3, 1) := by decide +kernel
theorem dX3_stops_16 : decode cX3_stops 16 = .ok (.aload_n 0, 1) := by decide +kernel
theorem dX3_stops_17 : decode cX3_stops 17 = .ok (.getfield 13, 3) := by decide +kernel
theorem dX3_stops_20 : decode cX3_stops 20 = .ok (.iload_n 1, 1) := by decide +kernel
theorem dX3_stops_21 : decode cX3_stops 21 = .ok (.laload, 1) := by decide +kernel
theorem dX3_stops_22 : decode cX3_stops 22 = .ok (.aload_n 0, 1) := by decide +kernel
theorem dX3_stops_23 : decode cX3_stops 23 = .ok (.getfield 13, 3) := by decide +kernel
theorem dX3_stops_26 : decode cX3_stops 26 = .ok (.iload_n 2, 1) := by decide +kernel
theorem dX3_stops_27 : decode cX3_stops 27 = .ok (.laload, 1) := by decide +kernel
theorem dX3_stops_28 : decode cX3_stops 28 = .ok (.invokestatic 133, 3) := by decide +kernel
theorem dX3_stops_31 : decode cX3_stops 31 = .ok (.lstore 5, 2) := by decide +kernel
theorem dX3_stops_33 : decode cX3_stops 33 = .ok (.aload_n 0, 1) := by decide +kernel
theorem dX3_stops_34 : decode cX3_stops 34 = .ok (.getfield 27, 3) := by decide +kernel
theorem dX3_stops_37 : decode cX3_stops 37 = .ok (.iload_n 1, 1) := by decide +kernel
theorem dX3_stops_38 : decode cX3_stops 38 = .ok (.lload_n 3, 1) := by decide +kernel
theorem dX3_stops_39 : decode cX3_stops 39 = .ok (.lastore, 1) := by decide +kernel
theorem dX3_stops_40 : decode cX3_stops 40 = .ok (.aload_n 0, 1) := by decide +kernel
theorem dX3_stops_41 : decode cX3_stops 41 = .ok (.getfield 30, 3) := by decide +kernel
theorem dX3_stops_44 : decode cX3_stops 44 = .ok (.iload_n 1, 1) := by decide +kernel
theorem dX3_stops_45 : decode cX3_stops 45 = .ok (.lload 5, 2) := by decide +kernel
theorem dX3_stops_47 : decode cX3_stops 47 = .ok (.lastore, 1) := by decide +kernel
theorem dX3_stops_48 : decode cX3_stops 48 = .ok (.return_, 1) := by decide +kernel
set_option maxRecDepth 20000 in
theorem ggX3_gather_X3_amount : GoodIn wsX3_gather wsX3_amount := goodIn_r _ [12, 13, 14, 15, 11, 16, 17, 18] (by decide +kernel) (by decide +kernel)
set_option maxRecDepth 20000 in
theorem gX3_gather_X3_amount : GoodIn wsX3_gather (va_wsS RX3 80 yX3_amount wsX3_amount) := goodIn_app (goodIn_of _ (by decide +kernel)) ggX3_gather_X3_amount
set_option maxRecDepth 20000 in
theorem ggX3_gather_X3_greater : GoodIn wsX3_gather wsX3_greater := goodIn_r _ [21, 22, 23, 11, 24, 25] (by decide +kernel) (by decide +kernel)
set_option maxRecDepth 20000 in
theorem gX3_gather_X3_greater : GoodIn wsX3_gather (va_wsS RX3 133 yX3_greater wsX3_greater) := goodIn_app (goodIn_of _ (by decide +kernel)) ggX3_gather_X3_greater
set_option maxRecDepth 20000 in
theorem ggX3_gather_X3_amount4 : GoodIn wsX3_gather wsX3_amount4 := goodIn_r _ [28, 29] (by decide +kernel) (by decide +kernel)
set_option maxRecDepth 20000 in
theorem gX3_gather_X3_amount4 : GoodIn wsX3_gather (va_wsS RX3 130 yX3_amount4 wsX3_amount4) := goodIn_app (goodIn_of _ (by decide +kernel)) ggX3_gather_X3_amount4
set_option maxRecDepth 20000 in
theorem ggX3_gather_X3_lesser4 : GoodIn wsX3_gather wsX3_lesser4 := goodIn_r _ [32, 33, 34, 11, 35, 29] (by decide +kernel) (by decide +kernel)
set_option maxRecDepth 20000 in
theorem gX3_gather_X3_lesser4 : GoodIn wsX3_gather (va_wsS RX3 144 yX3_lesser4 wsX3_lesser4) := goodIn_app (goodIn_of _ (by decide +kernel)) ggX3_gather_X3_lesser4
theorem dX3_gather_0 : decode cX3_gather 0 = .ok (.aload_n 0, 1) := by decide +kernel
theorem dX3_gather_1 : decode cX3_gather 1 = .ok (.getfield 21, 3) := by decide +kernel
theorem dX3_gather_4 : decode cX3_gather 4 = .ok (.iload_n 1, 1) := by decide +kernel
theorem dX3_gather_5 : decode cX3_gather 5 = .ok (.iaload, 1) := by decide +kernel
theorem dX3_gather_6 : decode cX3_gather 6 = .ok (.ifCond .ge 13, 3) := by decide +kernel
theorem dX3_gather_9 : decode cX3_gather 9 = .ok (.aload_n 0, 1) := by decide +kernel
theorem dX3_gather_10 : decode cX3_gather 10 = .ok (.getfield 21, 3) := by decide +kernel
theorem dX3_gather_13 : decode cX3_gather 13 = .ok (.iload_n 1, 1) := by decide +kernel
theorem dX3_gather_14 : decode cX3_gather 14 = .ok (.iaload, 1) := by decide +kernel
theorem dX3_gather_15 : decode cX3_gather 15 = .ok (.ineg, 1) := by decide +kernel
theorem dX3_gather_16 : decode cX3_gather 16 = .ok (.goto 9, 3) := by decide +kernel
theorem dX3_gather_19 : decode cX3_gather 19 = .ok (.aload_n 0, 1) := by decide +kernel
theorem dX3_gather_20 : decode cX3_gather 20 = .ok (.getfield 21, 3) := by decide +kernel
theorem dX3_gather_23 : decode cX3_gather 23 = .ok (.iload_n 1, 1) := by decide +kernel
theorem dX3_gather_24 : decode cX3_gather 24 = .ok (.iaload, 1) := by decide +kernel
theorem dX3_gather_25 : decode cX3_gather 25 = .ok (.istore_n 2, 1) := by decide +kernel
theorem dX3_gather_26 : decode cX3_gather 26 = .ok (.aload_n 0, 1) := by decide +kernel
theorem dX3_gather_27 : decode cX3_gather 27 = .ok (.getfield 24, 3) := by decide +kernel
theorem dX3_gather_30 : decode cX3_gather 30 = .ok (.iload_n 1, 1) := by decide +kernel
theorem dX3_gather_31 : decode cX3_gather 31 = .ok (.laload, 1) := by decide +kernel
theorem dX3_gather_32 : decode cX3_gather 32 = .ok (.lconst 0, 1) := by decide +kernel
theorem dX3_gather_33 : decode cX3_gather 33 = .ok (.lcmp, 1) := by decide +kernel
theorem dX3_gather_34 : decode cX3_gather 34 = .ok (.ifCond .ge 13, 3) := by decide +kernel
theorem dX3_gather_37 : decode cX3_gather 37 = .ok (.aload_n 0, 1) := by decide +kernel
theorem dX3_gather_38 : decode cX3_gather 38 = .ok (.getfield 24, 3) := by decide +kernel
theorem dX3_gather_41 : decode cX3_gather 41 = .ok (.iload_n 1, 1) := by decide +kernel
theorem dX3_gather_42 : decode cX3_gather 42 = .ok (.laload, 1) := by decide +kernel
theorem dX3_gather_43 : decode cX3_gather 43 = .ok (.lneg, 1) := by decide +kernel
theorem dX3_gather_44 : decode cX3_gather 44 = .ok (.goto 9, 3) := by decide +kernel
theorem dX3_gather_47 : decode cX3_gather 47 = .ok (.aload_n 0, 1) := by decide +kernel
theorem dX3_gather_48 : decode cX3_gather 48 = .ok (.getfield 24, 3) := by decide +kernel
theorem dX3_gather_51 : decode cX3_gather 51 = .ok (.iload_n 1, 1) := by decide +kernel
theorem dX3_gather_52 : decode cX3_gather 52 = .ok (.laload, 1) := by decide +kernel
theorem dX3_gather_53 : decode cX3_gather 53 = .ok (.lstore_n 3, 1) := by decide +kernel
theorem dX3_gather_54 : decode cX3_gather 54 = .ok (.aload_n 0, 1) := by decide +kernel
theorem dX3_gather_55 : decode cX3_gather 55 = .ok (.aload_n 0, 1) := by decide +kernel
theorem dX3_gather_56 : decode cX3_gather 56 = .ok (.getfield 153, 3) := by decide +kernel
theorem dX3_gather_59 : decode cX3_gather 59 = .ok (.aload_n 0, 1) := by decide +kernel
theorem dX3_gather_60 : decode cX3_gather 60 = .ok (.getfield 13, 3) := by decide +kernel
theorem dX3_gather_63 : decode cX3_gather 63 = .ok (.iload_n 1, 1) := by decide +kernel
theorem dX3_gather_64 : decode cX3_gather 64 = .ok (.laload, 1) := by decide +kernel
theorem dX3_gather_65 : decode cX3_gather 65 = .ok (.bipush 52, 2) := by decide +kernel
theorem dX3_gather_67 : decode cX3_gather 67 = .ok (.invokestatic 80, 3) := by decide +kernel
theorem dX3_gather_70 : decode cX3_gather 70 = .ok (.invokestatic 133, 3) := by decide +kernel
theorem dX3_gather_73 : decode cX3_gather 73 = .ok (.putfield 153, 3) := by decide +kernel
theorem dX3_gather_76 : decode cX3_gather 76 = .ok (.aload_n 0, 1) := by decide +kernel
theorem dX3_gather_77 : decode cX3_gather 77 = .ok (.aload_n 0, 1) := by decide +kernel
theorem dX3_gather_78 : decode cX3_gather 78 = .ok (.getfield 157, 3) := by decide +kernel
theorem dX3_gather_81 : decode cX3_gather 81 = .ok (.aload_n 0, 1) := by decide +kernel
theorem dX3_gather_82 : decode cX3_gather 82 = .ok (.getfield 17, 3) := by decide +kernel
theorem dX3_gather_85 : decode cX3_gather 85 = .ok (.iload_n 1, 1) := by decide +kernel
theorem dX3_gather_86 : decode cX3_gather 86 = .ok (.iaload, 1) := by decide +kernel
theorem dX3_gather_87 : decode cX3_gather 87 = .ok (.invokestatic 130, 3) := by decide +kernel
theorem dX3_gather_90 : decode cX3_gather 90 = .ok (.invokestatic 144, 3) := by decide +kernel
theorem dX3_gather_93 : decode cX3_gather 93 = .ok (.putfield 157, 3) := by decide +kernel
theorem dX3_gather_96 : decode cX3_gather 96 = .ok (.aload_n 0, 1) := by decide +kernel
theorem dX3_gather_97 : decode cX3_gather 97 = .ok (.iload_n 2, 1) := by decide +kernel
theorem dX3_gather_98 : decode cX3_gather 98 = .ok (.aload_n 0, 1) := by decide +kernel
theorem dX3_gather_99 : decode cX3_gather 99 = .ok (.getfield 161, 3) := by decide +kernel
theorem dX3_gather_102 : decode cX3_gather 102 = .ok (.if_icmp .le 7, 3) := by decide +kernel
theorem dX3_gather_105 : decode cX3_gather 105 = .ok (.iload_n 2, 1) := by decide +kernel
theorem dX3_gather_106 : decode cX3_gather 106 = .ok (.goto 7, 3) := by decide +kernel
theorem dX3_gather_109 : decode cX3_gather 109 = .ok (.aload_n 0, 1) := by decide +kernel
theorem dX3_gather_110 : decode cX3_gather 110 = .ok (.getfield 161, 3) := by decide +kernel
theorem dX3_gather_113 : decode cX3_gather 113 = .ok (.putfield 161, 3) := by decide +kernel
theorem dX3_gather_116 : decode cX3_gather 116 = .ok (.aload_n 0, 1) := by decide +kernel
theorem dX3_gather_117 : decode cX3_gather 117 = .ok (.lload_n 3, 1) := by decide +kernel
theorem dX3_gather_118 : decode cX3_gather 118 = .ok (.aload_n 0, 1) := by decide +kernel
theorem dX3_gather_119 : decode cX3_gather 119 = .ok (.getfield 164, 3) := by decide +kernel
theorem dX3_gather_122 : decode cX3_gather 122 = .ok (.lcmp, 1) := by decide +kernel
theorem dX3_gather_123 : decode cX3_gather 123 = .ok (.ifCond .ge 7, 3) := by decide +kernel
theorem dX3_gather_126 : decode cX3_gather 126 = .ok (.lload_n 3, 1) := by decide +kernel
theorem dX3_gather_127 : decode cX3_gather 127 = .ok (.goto 7, 3) := by decide +kernel
theorem dX3_gather_130 : decode cX3_gather 130 = .ok (.aload_n 0, 1) := by decide +kernel
theorem dX3_gather_131 : decode cX3_gather 131 = .ok (.getfield 164, 3) := by decide +kernel
theorem dX3_gather_134 : decode cX3_gather 134 = .ok (.putfield 164, 3) := by decide +kernel
theorem dX3_gather_137 : decode cX3_gather 137 = .ok (.return_, 1) := by decide +kernel
theorem dX3_trade_0 : decode cX3_trade 0 = .ok (.aload_n 0, 1) := by decide +kernel
theorem dX3_trade_1 : decode cX3_trade 1 = .ok (.iload_n 1, 1) := by decide +kernel
theorem dX3_trade_2 : decode cX3_trade 2 = .ok (.laload, 1) := by decide +kernel
theorem dX3_trade_3 : decode cX3_trade 3 = .ok (.lstore_n 3, 1) := by decide +kernel
theorem dX3_trade_4 : decode cX3_trade 4 = .ok (.aload_n 0, 1) := by decide +kernel
theorem dX3_trade_5 : decode cX3_trade 5 = .ok (.iload_n 1, 1) := by decide +kernel
theorem dX3_trade_6 : decode cX3_trade 6 = .ok (.aload_n 0, 1) := by decide +kernel
theorem dX3_trade_7 : decode cX3_trade 7 = .ok (.iload_n 2, 1) := by decide +kernel
theorem dX3_trade_8 : decode cX3_trade 8 = .ok (.laload, 1) := by decide +kernel
theorem dX3_trade_9 : decode cX3_trade 9 = .ok (.lastore, 1) := by decide +kernel
theorem dX3_trade_10 : decode cX3_trade 10 = .ok (.aload_n 0, 1) := by decide +kernel
theorem dX3_trade_11 : decode cX3_trade 11 = .ok (.iload_n 2, 1) := by decide +kernel
theorem dX3_trade_12 : decode cX3_trade 12 = .ok (.lload_n 3, 1) := by decide +kernel
theorem dX3_trade_13 : decode cX3_trade 13 = .ok (.lastore, 1) := by decide +kernel
theorem dX3_trade_14 : decode cX3_trade 14 = .ok (.return_, 1) := by decide +kernel
theorem dX3_trade4_0 : decode cX3_trade4 0 = .ok (.aload_n 0, 1) := by decide +kernel
theorem dX3_trade4_1 : decode cX3_trade4 1 = .ok (.iload_n 1, 1) := by decide +kernel
theorem dX3_trade4_2 : decode cX3_trade4 2 = .ok (.iaload, 1) := by decide +kernel
theorem dX3_trade4_3 : decode cX3_trade4 3 = .ok (.istore_n 3, 1) := by decide +kernel
theorem dX3_trade4_4 : decode cX3_trade4 4 = .ok (.aload_n 0, 1) := by decide +kernel
theorem dX3_trade4_5 : decode cX3_trade4 5 = .ok (.iload_n 1, 1) := by decide +kernel
theorem dX3_trade4_6 : decode cX3_trade4 6 = .ok (.aload_n 0, 1) := by decide +kernel
theorem dX3_trade4_7 : decode cX3_trade4 7 = .ok (.iload_n 2, 1) := by decide +kernel
theorem dX3_trade4_8 : decode cX3_trade4 8 = .ok (.iaload, 1) := by decide +kernel
theorem dX3_trade4_9 : decode cX3_trade4 9 = .ok (.iastore, 1) := by decide +kernel
theorem dX3_trade4_10 : decode cX3_trade4 10 = .ok (.aload_n 0, 1) := by decide +kernel
theorem dX3_trade4_11 : decode cX3_trade4 11 = .ok (.iload_n 2, 1) := by decide +kernel
theorem dX3_trade4_12 : decode cX3_trade4 12 = .ok (.iload_n 3, 1) := by decide +kernel
theorem dX3_trade4_13 : decode cX3_trade4 13 = .ok (.iastore, 1) := by decide +kernel
theorem dX3_trade4_14 : decode cX3_trade4 14 = .ok (.return_, 1) := by decide +kernel
set_option maxRecDepth 20000 in
theorem ggX3_climb_X3_amount : GoodIn wsX3_climb wsX3_amount := goodIn_r _ [9, 5, 10, 11, 8, 12, 13, 14] (by decide +kernel) (by decide +kernel)
set_option maxRecDepth 20000 in
theorem gX3_climb_X3_amount : GoodIn wsX3_climb (va_wsS RX3 80 yX3_amount wsX3_amount) := goodIn_app (goodIn_of _ (by decide +kernel)) ggX3_climb_X3_amount
set_option maxRecDepth 20000 in
theorem ggX3_climb_X3_amount4 : GoodIn wsX3_climb wsX3_amount4 := goodIn_r _ [17, 18] (by decide +kernel) (by decide +kernel)
set_option maxRecDepth 20000 in
theorem gX3_climb_X3_amount4 : GoodIn wsX3_climb (va_wsS RX3 130 yX3_amount4 wsX3_amount4) := goodIn_app (goodIn_of _ (by decide +kernel)) ggX3_climb_X3_amount4
theorem dX3_climb_0 : decode cX3_climb 0 = .ok (.aload_n 0, 1) := by decide +kernel
theorem dX3_climb_1 : decode cX3_climb 1 = .ok (.getfield 13, 3) := by decide +kernel
theorem dX3_climb_4 : decode cX3_climb 4 = .ok (.iload_n 1, 1) := by decide +kernel
theorem dX3_climb_5 : decode cX3_climb 5 = .ok (.laload, 1) := by decide +kernel
theorem dX3_climb_6 : decode cX3_climb 6 = .ok (.bipush 52, 2) := by decide +kernel
theorem dX3_climb_8 : decode cX3_climb 8 = .ok (.invokestatic 80, 3) := by decide +kernel
theorem dX3_climb_11 : decode cX3_climb 11 = .ok (.lconst 0, 1) := by decide +kernel
theorem dX3_climb_12 : decode cX3_climb 12 = .ok (.lcmp, 1) := by decide +kernel
theorem dX3_climb_13 : decode cX3_climb 13 = .ok (.ifCond .le 28, 3) := by decide +kernel
theorem dX3_climb_16 : decode cX3_climb 16 = .ok (.aload_n 0, 1) := by decide +kernel
theorem dX3_climb_17 : decode cX3_climb 17 = .ok (.getfield 21, 3) := by decide +kernel
theorem dX3_climb_20 : decode cX3_climb 20 = .ok (.iload_n 1, 1) := by decide +kernel
theorem dX3_climb_21 : decode cX3_climb 21 = .ok (.dup2, 1) := by decide +kernel
theorem dX3_climb_22 : decode cX3_climb 22 = .ok (.iaload, 1) := by decide +kernel
theorem dX3_climb_23 : decode cX3_climb 23 = .ok (.aload_n 0, 1) := by decide +kernel
theorem dX3_climb_24 : decode cX3_climb 24 = .ok (.getfield 13, 3) := by decide +kernel
theorem dX3_climb_27 : decode cX3_climb 27 = .ok (.iload_n 1, 1) := by decide +kernel
theorem dX3_climb_28 : decode cX3_climb 28 = .ok (.laload, 1) := by decide +kernel
theorem dX3_climb_29 : decode cX3_climb 29 = .ok (.lconst 0, 1) := by decide +kernel
theorem dX3_climb_30 : decode cX3_climb 30 = .ok (.lcmp, 1) := by decide +kernel
theorem dX3_climb_31 : decode cX3_climb 31 = .ok (.ifCond .ge 7, 3) := by decide +kernel
theorem dX3_climb_34 : decode cX3_climb 34 = .ok (.iconst (-1), 1) := by decide +kernel
theorem dX3_climb_35 : decode cX3_climb 35 = .ok (.goto 4, 3) := by decide +kernel
theorem dX3_climb_38 : decode cX3_climb 38 = .ok (.iconst 1, 1) := by decide +kernel
theorem dX3_climb_39 : decode cX3_climb 39 = .ok (.iadd, 1) := by decide +kernel
theorem dX3_climb_40 : decode cX3_climb 40 = .ok (.iastore, 1) := by decide +kernel
theorem dX3_climb_41 : decode cX3_climb 41 = .ok (.aload_n 0, 1) := by decide +kernel
theorem dX3_climb_42 : decode cX3_climb 42 = .ok (.getfield 17, 3) := by decide +kernel
theorem dX3_climb_45 : decode cX3_climb 45 = .ok (.iload_n 1, 1) := by decide +kernel
theorem dX3_climb_46 : decode cX3_climb 46 = .ok (.iaload, 1) := by decide +kernel
theorem dX3_climb_47 : decode cX3_climb 47 = .ok (.invokestatic 130, 3) := by decide +kernel
theorem dX3_climb_50 : decode cX3_climb 50 = .ok (.ifCond .le 28, 3) := by decide +kernel
theorem dX3_climb_53 : decode cX3_climb 53 = .ok (.aload_n 0, 1) := by decide +kernel
theorem dX3_climb_54 : decode cX3_climb 54 = .ok (.getfield 24, 3) := by decide +kernel
theorem dX3_climb_57 : decode cX3_climb 57 = .ok (.iload_n 1, 1) := by decide +kernel
theorem dX3_climb_58 : decode cX3_climb 58 = .ok (.dup2, 1) := by decide +kernel
theorem dX3_climb_59 : decode cX3_climb 59 = .ok (.laload, 1) := by decide +kernel
theorem dX3_climb_60 : decode cX3_climb 60 = .ok (.aload_n 0, 1) := by decide +kernel
theorem dX3_climb_61 : decode cX3_climb 61 = .ok (.getfield 17, 3) := by decide +kernel
theorem dX3_climb_64 : decode cX3_climb 64 = .ok (.iload_n 1, 1) := by decide +kernel
theorem dX3_climb_65 : decode cX3_climb 65 = .ok (.iaload, 1) := by decide +kernel
theorem dX3_climb_66 : decode cX3_climb 66 = .ok (.ifCond .ge 9, 3) := by decide +kernel
theorem dX3_climb_69 : decode cX3_climb 69 = .ok (.ldc2_w 78, 3) := by decide +kernel
theorem dX3_climb_72 : decode cX3_climb 72 = .ok (.goto 4, 3) := by decide +kernel
theorem dX3_climb_75 : decode cX3_climb 75 = .ok (.lconst 1, 1) := by decide +kernel
theorem dX3_climb_76 : decode cX3_climb 76 = .ok (.ladd, 1) := by decide +kernel
theorem dX3_climb_77 : decode cX3_climb 77 = .ok (.lastore, 1) := by decide +kernel
theorem dX3_climb_78 : decode cX3_climb 78 = .ok (.return_, 1) := by decide +kernel
set_option maxRecDepth 20000 in
theorem ggX3_does_X3_flip : GoodIn wsX3_does wsX3_flip := goodIn_r _ [15, 1, 4, 5, 6, 16, 17, 14, 18, 19, 20, 21, 22, 23, 24, 25, 26, 27, 28, 121, 122, 123, 124, 125, 126, 127, 128, 129, 130, 131, 132, 133, 134, 135, 136, 137, 138, 139, 140, 141] (by decide +kernel) (by decide +kernel)
set_option maxRecDepth 20000 in
theorem gX3_does_X3_flip : GoodIn wsX3_does (wsV RX3 167 RX3 yX3_flip wsX3_flip) := goodIn_app (goodIn_of _ (by decide +kernel)) ggX3_does_X3_flip
set_option maxRecDepth 20000 in
theorem ggX3_does_X3_stretch : GoodIn wsX3_does wsX3_stretch := goodIn_r _ [32, 1, 4, 5, 6, 33, 34, 14, 35, 36, 37, 38, 39, 40, 41, 42, 43, 44, 45, 28, 121, 122, 123, 124, 125, 126, 127, 128, 129, 130, 131, 132, 133, 134, 135, 136, 137, 138, 139, 140, 141] (by decide +kernel) (by decide +kernel)
set_option maxRecDepth 20000 in
theorem gX3_does_X3_stretch : GoodIn wsX3_does (wsV RX3 170 RX3 yX3_stretch wsX3_stretch) := goodIn_app (goodIn_of _ (by decide +kernel)) ggX3_does_X3_stretch
set_option maxRecDepth 20000 in
theorem ggX3_does_X3_ease : GoodIn wsX3_does wsX3_ease := goodIn_r _ [49, 1, 4, 5, 6, 50, 51, 14, 52, 36, 37, 38, 39, 53, 54, 55, 43, 44, 45, 28, 121, 122, 123, 124, 125, 126, 127, 128, 129, 130, 131, 132, 133, 134, 135, 136, 137, 138, 139, 140, 141] (by decide +kernel) (by decide +kernel)
set_option maxRecDepth 20000 in
theorem gX3_does_X3_ease : GoodIn wsX3_does (wsV RX3 174 RX3 yX3_ease wsX3_ease) := goodIn_app (goodIn_of _ (by decide +kernel)) ggX3_does_X3_ease
set_option maxRecDepth 20000 in
theorem ggX3_does_X3_wholes : GoodIn wsX3_does wsX3_wholes := goodIn_r _ [59, 4, 1, 60, 61, 14, 62, 63, 64, 65, 66, 19, 16, 17, 18, 20, 21, 22, 23, 24, 67, 68, 69, 70, 71, 72, 73, 74, 75, 76, 77, 78, 79, 80, 81, 82, 83, 84, 121, 122, 123, 124, 125, 126, 127, 128, 129, 130, 131, 132, 133, 134, 135, 136, 137, 138, 139, 140, 141] (by decide +kernel) (by decide +kernel)
set_option maxRecDepth 20000 in
theorem gX3_does_X3_wholes : GoodIn wsX3_does (wsV RX3 177 RX3 yX3_wholes wsX3_wholes) := goodIn_app (goodIn_of _ (by decide +kernel)) ggX3_does_X3_wholes
set_option maxRecDepth 20000 in
theorem ggX3_does_X3_lean : GoodIn wsX3_does wsX3_lean := goodIn_r _ [88, 4, 1, 7, 8, 60, 61, 14, 62, 63, 16, 17, 18, 19, 20, 21, 22, 23, 24, 72, 73, 74, 67, 68, 69, 70, 71, 121, 122, 123, 124, 125, 126, 127, 128, 129, 130, 131, 132, 133, 134, 135, 136, 137, 138, 139, 140, 141] (by decide +kernel) (by decide +kernel)
set_option maxRecDepth 20000 in
theorem gX3_does_X3_lean : GoodIn wsX3_does (wsV RX3 180 RX3 yX3_lean wsX3_lean) := goodIn_app (goodIn_of _ (by decide +kernel)) ggX3_does_X3_lean
set_option maxRecDepth 20000 in
theorem ggX3_does_X3_mirror : GoodIn wsX3_does wsX3_mirror := goodIn_r _ [92, 1, 4, 93, 16, 17, 14, 18, 19, 20, 21, 22, 23, 24, 25, 26, 27, 28, 121, 122, 123, 124, 125, 126, 127, 128, 129, 130, 131, 132, 133, 134, 135, 136, 137, 138, 139, 140, 141] (by decide +kernel) (by decide +kernel)
set_option maxRecDepth 20000 in
theorem gX3_does_X3_mirror : GoodIn wsX3_does (wsV RX3 183 RX3 yX3_mirror wsX3_mirror) := goodIn_app (goodIn_of _ (by decide +kernel)) ggX3_does_X3_mirror
set_option maxRecDepth 20000 in
theorem ggX3_does_X3_greater : GoodIn wsX3_does wsX3_greater := goodIn_r _ [35, 36, 37, 14, 38, 39] (by decide +kernel) (by decide +kernel)
set_option maxRecDepth 20000 in
theorem gX3_does_X3_greater : GoodIn wsX3_does (va_wsS RX3 133 yX3_greater wsX3_greater) := goodIn_app (goodIn_of _ (by decide +kernel)) ggX3_does_X3_greater
set_option maxRecDepth 20000 in
theorem ggX3_does_X3_lesser : GoodIn wsX3_does wsX3_lesser := goodIn_r _ [52, 36, 37, 14, 38, 39] (by decide +kernel) (by decide +kernel)
set_option maxRecDepth 20000 in
theorem gX3_does_X3_lesser : GoodIn wsX3_does (va_wsS RX3 141 yX3_lesser wsX3_lesser) := goodIn_app (goodIn_of _ (by decide +kernel)) ggX3_does_X3_lesser
set_option maxRecDepth 20000 in
theorem ggX3_does_X3_stops : GoodIn wsX3_does wsX3_stops := goodIn_r _ [97, 1, 2, 3, 50, 51, 14, 52, 36, 37, 38, 39, 33, 34, 35, 121, 122, 123, 124, 125, 126, 127, 128, 129, 130, 131, 132, 133, 134, 135, 136, 137, 138, 139, 140, 141] (by decide +kernel) (by decide +kernel)
set_option maxRecDepth 20000 in
theorem gX3_does_X3_stops : GoodIn wsX3_does (wsV RX3 186 RX3 yX3_stops wsX3_stops) := goodIn_app (goodIn_of _ (by decide +kernel)) ggX3_does_X3_stops
set_option maxRecDepth 20000 in
theorem ggX3_does_X3_gather : GoodIn wsX3_does wsX3_gather := goodIn_r _ [101, 5, 6, 7, 1, 8, 4, 9, 10, 16, 17, 14, 18, 19, 20, 21, 22, 23, 24, 33, 34, 35, 36, 37, 38, 39, 25, 26, 27, 28, 53, 54, 55, 43, 44, 45, 121, 122, 123, 124, 125, 126, 127, 128, 129, 130, 131, 132, 133, 134, 135, 136, 137, 138, 139, 140, 141] (by decide +kernel) (by decide +kernel)
set_option maxRecDepth 20000 in
theorem gX3_does_X3_gather : GoodIn wsX3_does (wsV RX3 189 RX3 yX3_gather wsX3_gather) := goodIn_app (goodIn_of _ (by decide +kernel)) ggX3_does_X3_gather
set_option maxRecDepth 20000 in
theorem ggX3_does_X3_trade : GoodIn wsX3_does wsX3_trade := goodIn_r _ [104] (by decide +kernel) (by decide +kernel)
set_option maxRecDepth 20000 in
theorem gX3_does_X3_trade : GoodIn wsX3_does (va_wsS RX3 192 yX3_trade wsX3_trade) := goodIn_app (goodIn_of _ (by decide +kernel)) ggX3_does_X3_trade
set_option maxRecDepth 20000 in
theorem ggX3_does_X3_trade4 : GoodIn wsX3_does wsX3_trade4 := goodIn_r _ [107] (by decide +kernel) (by decide +kernel)
set_option maxRecDepth 20000 in
theorem gX3_does_X3_trade4 : GoodIn wsX3_does (va_wsS RX3 196 yX3_trade4 wsX3_trade4) := goodIn_app (goodIn_of _ (by decide +kernel)) ggX3_does_X3_trade4
set_option maxRecDepth 20000 in
theorem ggX3_does_X3_climb : GoodIn wsX3_does wsX3_climb := goodIn_r _ [111, 1, 5, 4, 6, 19, 16, 17, 14, 18, 20, 21, 22, 23, 24, 25, 26, 27, 28, 121, 122, 123, 124, 125, 126, 127, 128, 129, 130, 131, 132, 133, 134, 135, 136, 137, 138, 139, 140, 141] (by decide +kernel) (by decide +kernel)
set_option maxRecDepth 20000 in
theorem gX3_does_X3_climb : GoodIn wsX3_does (wsV RX3 200 RX3 yX3_climb wsX3_climb) := goodIn_app (goodIn_of _ (by decide +kernel)) ggX3_does_X3_climb
set_option maxRecDepth 20000 in
theorem ggX3_does_X3_half : GoodIn wsX3_does wsX3_half := goodIn_r _ [114, 16, 17, 14, 18, 19, 20, 21, 22, 23, 24, 115, 116, 117, 84, 67, 68, 69, 70, 71] (by decide +kernel) (by decide +kernel)
set_option maxRecDepth 20000 in
theorem gX3_does_X3_half : GoodIn wsX3_does (va_wsS RX3 203 yX3_half wsX3_half) := goodIn_app (goodIn_of _ (by decide +kernel)) ggX3_does_X3_half
set_option maxRecDepth 20000 in
theorem ggX3_does_X3_thin : GoodIn wsX3_does wsX3_thin := goodIn_r _ [62, 63] (by decide +kernel) (by decide +kernel)
set_option maxRecDepth 20000 in
theorem gX3_does_X3_thin : GoodIn wsX3_does (va_wsS RX3 121 yX3_thin wsX3_thin) := goodIn_app (goodIn_of _ (by decide +kernel)) ggX3_does_X3_thin
set_option maxRecDepth 20000 in
theorem ggX3_does_X3_twice : GoodIn wsX3_does wsX3_twice := goodIn_r _ [120, 84, 16, 17, 14, 18, 19, 20, 21, 22, 23, 24, 67, 68, 69, 70, 71, 115, 116, 117] (by decide +kernel) (by decide +kernel)
set_option maxRecDepth 20000 in
theorem gX3_does_X3_twice : GoodIn wsX3_does (va_wsS RX3 206 yX3_twice wsX3_twice) := goodIn_app (goodIn_of _ (by decide +kernel)) ggX3_does_X3_twice
theorem dX3_does_0 : decode cX3_does 0 = .ok (.iload_n 1, 1) := by decide +kernel
theorem dX3_does_1 : decode cX3_does 1 = .ok (.tableswitch 324 0 14 #[75, 83, 92, 101, 101, 101, 110, 118, 127, 160, 169, 177, 234, 242, 283], 75) := by decide +kernel
theorem dX3_does_76 : decode cX3_does 76 = .ok (.aload_n 0, 1) := by decide +kernel
theorem dX3_does_77 : decode cX3_does 77 = .ok (.iload_n 2, 1) := by decide +kernel
theorem dX3_does_78 : decode cX3_does 78 = .ok (.invokevirtual 167, 3) := by decide +kernel
theorem dX3_does_81 : decode cX3_does 81 = .ok (.goto 284, 3) := by decide +kernel
theorem dX3_does_84 : decode cX3_does 84 = .ok (.aload_n 0, 1) := by decide +kernel
theorem dX3_does_85 : decode cX3_does 85 = .ok (.iload_n 2, 1) := by decide +kernel
theorem dX3_does_86 : decode cX3_does 86 = .ok (.iload_n 3, 1) := by decide +kernel
theorem dX3_does_87 : decode cX3_does 87 = .ok (.invokevirtual 170, 3) := by decide +kernel
theorem dX3_does_90 : decode cX3_does 90 = .ok (.goto 275, 3) := by decide +kernel
theorem dX3_does_93 : decode cX3_does 93 = .ok (.aload_n 0, 1) := by decide +kernel
theorem dX3_does_94 : decode cX3_does 94 = .ok (.iload_n 2, 1) := by decide +kernel
theorem dX3_does_95 : decode cX3_does 95 = .ok (.iload_n 3, 1) := by decide +kernel
theorem dX3_does_96 : decode cX3_does 96 = .ok (.invokevirtual 174, 3) := by decide +kernel
theorem dX3_does_99 : decode cX3_does 99 = .ok (.goto 266, 3) := by decide +kernel
theorem dX3_does_102 : decode cX3_does 102 = .ok (.aload_n 0, 1) := by decide +kernel
theorem dX3_does_103 : decode cX3_does 103 = .ok (.iload_n 1, 1) := by decide +kernel
theorem dX3_does_104 : decode cX3_does 104 = .ok (.iload_n 2, 1) := by decide +kernel
theorem dX3_does_105 : decode cX3_does 105 = .ok (.invokevirtual 177, 3) := by decide +kernel
theorem dX3_does_108 : decode cX3_does 108 = .ok (.goto 257, 3) := by decide +kernel
theorem dX3_does_111 : decode cX3_does 111 = .ok (.aload_n 0, 1) := by decide +kernel
theorem dX3_does_112 : decode cX3_does 112 = .ok (.iload_n 2, 1) := by decide +kernel
theorem dX3_does_113 : decode cX3_does 113 = .ok (.invokevirtual 180, 3) := by decide +kernel
theorem dX3_does_116 : decode cX3_does 116 = .ok (.goto 249, 3) := by decide +kernel
theorem dX3_does_119 : decode cX3_does 119 = .ok (.aload_n 0, 1) := by decide +kernel
theorem dX3_does_120 : decode cX3_does 120 = .ok (.iload_n 2, 1) := by decide +kernel
theorem dX3_does_121 : decode cX3_does 121 = .ok (.iload_n 3, 1) := by decide +kernel
theorem dX3_does_122 : decode cX3_does 122 = .ok (.invokevirtual 183, 3) := by decide +kernel
theorem dX3_does_125 : decode cX3_does 125 = .ok (.goto 240, 3) := by decide +kernel
theorem dX3_does_128 : decode cX3_does 128 = .ok (.aload_n 0, 1) := by decide +kernel
theorem dX3_does_129 : decode cX3_does 129 = .ok (.getfield 13, 3) := by decide +kernel
theorem dX3_does_132 : decode cX3_does 132 = .ok (.iload_n 2, 1) := by decide +kernel
theorem dX3_does_133 : decode cX3_does 133 = .ok (.aload_n 0, 1) := by decide +kernel
theorem dX3_does_134 : decode cX3_does 134 = .ok (.getfield 13, 3) := by decide +kernel
theorem dX3_does_137 : decode cX3_does 137 = .ok (.iload_n 2, 1) := by decide +kernel
theorem dX3_does_138 : decode cX3_does 138 = .ok (.laload, 1) := by decide +kernel
theorem dX3_does_139 : decode cX3_does 139 = .ok (.aload_n 0, 1) := by decide +kernel
theorem dX3_does_140 : decode cX3_does 140 = .ok (.getfield 27, 3) := by decide +kernel
theorem dX3_does_143 : decode cX3_does 143 = .ok (.iload_n 2, 1) := by decide +kernel
theorem dX3_does_144 : decode cX3_does 144 = .ok (.laload, 1) := by decide +kernel
theorem dX3_does_145 : decode cX3_does 145 = .ok (.invokestatic 133, 3) := by decide +kernel
theorem dX3_does_148 : decode cX3_does 148 = .ok (.aload_n 0, 1) := by decide +kernel
theorem dX3_does_149 : decode cX3_does 149 = .ok (.getfield 30, 3) := by decide +kernel
theorem dX3_does_152 : decode cX3_does 152 = .ok (.iload_n 2, 1) := by decide +kernel
theorem dX3_does_153 : decode cX3_does 153 = .ok (.laload, 1) := by decide +kernel
theorem dX3_does_154 : decode cX3_does 154 = .ok (.invokestatic 141, 3) := by decide +kernel
theorem dX3_does_157 : decode cX3_does 157 = .ok (.lastore, 1) := by decide +kernel
theorem dX3_does_158 : decode cX3_does 158 = .ok (.goto 207, 3) := by decide +kernel
theorem dX3_does_161 : decode cX3_does 161 = .ok (.aload_n 0, 1) := by decide +kernel
theorem dX3_does_162 : decode cX3_does 162 = .ok (.iload_n 2, 1) := by decide +kernel
theorem dX3_does_163 : decode cX3_does 163 = .ok (.iload_n 3, 1) := by decide +kernel
theorem dX3_does_164 : decode cX3_does 164 = .ok (.invokevirtual 186, 3) := by decide +kernel
theorem dX3_does_167 : decode cX3_does 167 = .ok (.goto 198, 3) := by decide +kernel
theorem dX3_does_170 : decode cX3_does 170 = .ok (.aload_n 0, 1) := by decide +kernel
theorem dX3_does_171 : decode cX3_does 171 = .ok (.iload_n 2, 1) := by decide +kernel
theorem dX3_does_172 : decode cX3_does 172 = .ok (.invokevirtual 189, 3) := by decide +kernel
theorem dX3_does_175 : decode cX3_does 175 = .ok (.goto 190, 3) := by decide +kernel
theorem dX3_does_178 : decode cX3_does 178 = .ok (.aload_n 0, 1) := by decide +kernel
theorem dX3_does_179 : decode cX3_does 179 = .ok (.getfield 13, 3) := by decide +kernel
theorem dX3_does_182 : decode cX3_does 182 = .ok (.iload_n 2, 1) := by decide +kernel
theorem dX3_does_183 : decode cX3_does 183 = .ok (.iload_n 3, 1) := by decide +kernel
theorem dX3_does_184 : decode cX3_does 184 = .ok (.invokestatic 192, 3) := by decide +kernel
theorem dX3_does_187 : decode cX3_does 187 = .ok (.aload_n 0, 1) := by decide +kernel
theorem dX3_does_188 : decode cX3_does 188 = .ok (.getfield 17, 3) := by decide +kernel
theorem dX3_does_191 : decode cX3_does 191 = .ok (.iload_n 2, 1) := by decide +kernel
theorem dX3_does_192 : decode cX3_does 192 = .ok (.iload_n 3, 1) := by decide +kernel
theorem dX3_does_193 : decode cX3_does 193 = .ok (.invokestatic 196, 3) := by decide +kernel
theorem dX3_does_196 : decode cX3_does 196 = .ok (.aload_n 0, 1) := by decide +kernel
theorem dX3_does_197 : decode cX3_does 197 = .ok (.getfield 21, 3) := by decide +kernel
theorem dX3_does_200 : decode cX3_does 200 = .ok (.iload_n 2, 1) := by decide +kernel
theorem dX3_does_201 : decode cX3_does 201 = .ok (.iload_n 3, 1) := by decide +kernel
theorem dX3_does_202 : decode cX3_does 202 = .ok (.invokestatic 196, 3) := by decide +kernel
theorem dX3_does_205 : decode cX3_does 205 = .ok (.aload_n 0, 1) := by decide +kernel
theorem dX3_does_206 : decode cX3_does 206 = .ok (.getfield 24, 3) := by decide +kernel
theorem dX3_does_209 : decode cX3_does 209 = .ok (.iload_n 2, 1) := by decide +kernel
theorem dX3_does_210 : decode cX3_does 210 = .ok (.iload_n 3, 1) := by decide +kernel
theorem dX3_does_211 : decode cX3_does 211 = .ok (.invokestatic 192, 3) := by decide +kernel
theorem dX3_does_214 : decode cX3_does 214 = .ok (.aload_n 0, 1) := by decide +kernel
theorem dX3_does_215 : decode cX3_does 215 = .ok (.getfield 27, 3) := by decide +kernel
theorem dX3_does_218 : decode cX3_does 218 = .ok (.iload_n 2, 1) := by decide +kernel
theorem dX3_does_219 : decode cX3_does 219 = .ok (.iload_n 3, 1) := by decide +kernel
theorem dX3_does_220 : decode cX3_does 220 = .ok (.invokestatic 192, 3) := by decide +kernel
theorem dX3_does_223 : decode cX3_does 223 = .ok (.aload_n 0, 1) := by decide +kernel
theorem dX3_does_224 : decode cX3_does 224 = .ok (.getfield 30, 3) := by decide +kernel
theorem dX3_does_227 : decode cX3_does 227 = .ok (.iload_n 2, 1) := by decide +kernel
theorem dX3_does_228 : decode cX3_does 228 = .ok (.iload_n 3, 1) := by decide +kernel
theorem dX3_does_229 : decode cX3_does 229 = .ok (.invokestatic 192, 3) := by decide +kernel
theorem dX3_does_232 : decode cX3_does 232 = .ok (.goto 133, 3) := by decide +kernel
theorem dX3_does_235 : decode cX3_does 235 = .ok (.aload_n 0, 1) := by decide +kernel
theorem dX3_does_236 : decode cX3_does 236 = .ok (.iload_n 2, 1) := by decide +kernel
theorem dX3_does_237 : decode cX3_does 237 = .ok (.invokevirtual 200, 3) := by decide +kernel
theorem dX3_does_240 : decode cX3_does 240 = .ok (.goto 125, 3) := by decide +kernel
theorem dX3_does_243 : decode cX3_does 243 = .ok (.aload_n 0, 1) := by decide +kernel
theorem dX3_does_244 : decode cX3_does 244 = .ok (.getfield 13, 3) := by decide +kernel
theorem dX3_does_247 : decode cX3_does 247 = .ok (.iload_n 2, 1) := by decide +kernel
theorem dX3_does_248 : decode cX3_does 248 = .ok (.aload_n 0, 1) := by decide +kernel
theorem dX3_does_249 : decode cX3_does 249 = .ok (.getfield 13, 3) := by decide +kernel
theorem dX3_does_252 : decode cX3_does 252 = .ok (.iload_n 2, 1) := by decide +kernel
theorem dX3_does_253 : decode cX3_does 253 = .ok (.laload, 1) := by decide +kernel
theorem dX3_does_254 : decode cX3_does 254 = .ok (.bipush 52, 2) := by decide +kernel
theorem dX3_does_256 : decode cX3_does 256 = .ok (.invokestatic 203, 3) := by decide +kernel
theorem dX3_does_259 : decode cX3_does 259 = .ok (.lastore, 1) := by decide +kernel
theorem dX3_does_260 : decode cX3_does 260 = .ok (.aload_n 0, 1) := by decide +kernel
theorem dX3_does_261 : decode cX3_does 261 = .ok (.getfield 17, 3) := by decide +kernel
theorem dX3_does_264 : decode cX3_does 264 = .ok (.iload_n 2, 1) := by decide +kernel
theorem dX3_does_265 : decode cX3_does 265 = .ok (.aload_n 0, 1) := by decide +kernel
theorem dX3_does_266 : decode cX3_does 266 = .ok (.getfield 17, 3) := by decide +kernel
theorem dX3_does_269 : decode cX3_does 269 = .ok (.iload_n 2, 1) := by decide +kernel
theorem dX3_does_270 : decode cX3_does 270 = .ok (.iaload, 1) := by decide +kernel
theorem dX3_does_271 : decode cX3_does 271 = .ok (.invokestatic 121, 3) := by decide +kernel
theorem dX3_does_274 : decode cX3_does 274 = .ok (.bipush 23, 2) := by decide +kernel
theorem dX3_does_276 : decode cX3_does 276 = .ok (.invokestatic 203, 3) := by decide +kernel
theorem dX3_does_279 : decode cX3_does 279 = .ok (.l2i, 1) := by decide +kernel
theorem dX3_does_280 : decode cX3_does 280 = .ok (.iastore, 1) := by decide +kernel
theorem dX3_does_281 : decode cX3_does 281 = .ok (.goto 84, 3) := by decide +kernel
theorem dX3_does_284 : decode cX3_does 284 = .ok (.aload_n 0, 1) := by decide +kernel
theorem dX3_does_285 : decode cX3_does 285 = .ok (.getfield 13, 3) := by decide +kernel
theorem dX3_does_288 : decode cX3_does 288 = .ok (.iload_n 2, 1) := by decide +kernel
theorem dX3_does_289 : decode cX3_does 289 = .ok (.aload_n 0, 1) := by decide +kernel
theorem dX3_does_290 : decode cX3_does 290 = .ok (.getfield 13, 3) := by decide +kernel
theorem dX3_does_293 : decode cX3_does 293 = .ok (.iload_n 2, 1) := by decide +kernel
theorem dX3_does_294 : decode cX3_does 294 = .ok (.laload, 1) := by decide +kernel
theorem dX3_does_295 : decode cX3_does 295 = .ok (.bipush 52, 2) := by decide +kernel
theorem dX3_does_297 : decode cX3_does 297 = .ok (.invokestatic 206, 3) := by decide +kernel
theorem dX3_does_300 : decode cX3_does 300 = .ok (.lastore, 1) := by decide +kernel
theorem dX3_does_301 : decode cX3_does 301 = .ok (.aload_n 0, 1) := by decide +kernel
theorem dX3_does_302 : decode cX3_does 302 = .ok (.getfield 17, 3) := by decide +kernel
theorem dX3_does_305 : decode cX3_does 305 = .ok (.iload_n 2, 1) := by decide +kernel
theorem dX3_does_306 : decode cX3_does 306 = .ok (.aload_n 0, 1) := by decide +kernel
theorem dX3_does_307 : decode cX3_does 307 = .ok (.getfield 17, 3) := by decide +kernel
theorem dX3_does_310 : decode cX3_does 310 = .ok (.iload_n 2, 1) := by decide +kernel
theorem dX3_does_311 : decode cX3_does 311 = .ok (.iaload, 1) := by decide +kernel
theorem dX3_does_312 : decode cX3_does 312 = .ok (.invokestatic 121, 3) := by decide +kernel
theorem dX3_does_315 : decode cX3_does 315 = .ok (.bipush 23, 2) := by decide +kernel
theorem dX3_does_317 : decode cX3_does 317 = .ok (.invokestatic 206, 3) := by decide +kernel
theorem dX3_does_320 : decode cX3_does 320 = .ok (.l2i, 1) := by decide +kernel
theorem dX3_does_321 : decode cX3_does 321 = .ok (.iastore, 1) := by decide +kernel
theorem dX3_does_322 : decode cX3_does 322 = .ok (.goto 43, 3) := by decide +kernel
theorem dX3_does_325 : decode cX3_does 325 = .ok (.aload_n 0, 1) := by decide +kernel
theorem dX3_does_326 : decode cX3_does 326 = .ok (.getfield 13, 3) := by decide +kernel
theorem dX3_does_329 : decode cX3_does 329 = .ok (.iload_n 2, 1) := by decide +kernel
theorem dX3_does_330 : decode cX3_does 330 = .ok (.aload_n 0, 1) := by decide +kernel
theorem dX3_does_331 : decode cX3_does 331 = .ok (.getfield 153, 3) := by decide +kernel
theorem dX3_does_334 : decode cX3_does 334 = .ok (.lastore, 1) := by decide +kernel
theorem dX3_does_335 : decode cX3_does 335 = .ok (.aload_n 0, 1) := by decide +kernel
theorem dX3_does_336 : decode cX3_does 336 = .ok (.getfield 17, 3) := by decide +kernel
theorem dX3_does_339 : decode cX3_does 339 = .ok (.iload_n 2, 1) := by decide +kernel
theorem dX3_does_340 : decode cX3_does 340 = .ok (.aload_n 0, 1) := by decide +kernel
theorem dX3_does_341 : decode cX3_does 341 = .ok (.getfield 157, 3) := by decide +kernel
theorem dX3_does_344 : decode cX3_does 344 = .ok (.iastore, 1) := by decide +kernel
theorem dX3_does_345 : decode cX3_does 345 = .ok (.aload_n 0, 1) := by decide +kernel
theorem dX3_does_346 : decode cX3_does 346 = .ok (.getfield 21, 3) := by decide +kernel
theorem dX3_does_349 : decode cX3_does 349 = .ok (.iload_n 2, 1) := by decide +kernel
theorem dX3_does_350 : decode cX3_does 350 = .ok (.aload_n 0, 1) := by decide +kernel
theorem dX3_does_351 : decode cX3_does 351 = .ok (.getfield 161, 3) := by decide +kernel
theorem dX3_does_354 : decode cX3_does 354 = .ok (.iastore, 1) := by decide +kernel
theorem dX3_does_355 : decode cX3_does 355 = .ok (.aload_n 0, 1) := by decide +kernel
theorem dX3_does_356 : decode cX3_does 356 = .ok (.getfield 24, 3) := by decide +kernel
theorem dX3_does_359 : decode cX3_does 359 = .ok (.iload_n 2, 1) := by decide +kernel
theorem dX3_does_360 : decode cX3_does 360 = .ok (.aload_n 0, 1) := by decide +kernel
theorem dX3_does_361 : decode cX3_does 361 = .ok (.getfield 164, 3) := by decide +kernel
theorem dX3_does_364 : decode cX3_does 364 = .ok (.lastore, 1) := by decide +kernel
theorem dX3_does_365 : decode cX3_does 365 = .ok (.return_, 1) := by decide +kernel
set_option maxRecDepth 20000 in
theorem ggX3_moved_X3_does : GoodIn wsX3_moved wsX3_does := goodIn_r _ [13, 2, 14, 15, 4, 6, 8, 16, 17, 18, 19, 20, 21, 22, 12, 23, 24, 25, 26, 27, 28, 29, 30, 31, 32, 33, 34, 35, 36, 37, 38, 39, 40, 41, 42, 43, 44, 45, 46, 47, 48, 49, 50, 51, 52, 53, 54, 55, 56, 57, 58, 59, 60, 61, 62, 63, 64, 65, 66, 67, 68, 69, 70, 71, 72, 73, 74, 75, 76, 77, 78, 79, 80, 81, 82, 83, 84, 85, 86, 87, 88, 89, 90, 91, 92, 93, 94, 95, 96, 97, 98, 99, 100, 101, 102, 103, 104, 105, 106, 107, 108, 109, 110, 111, 112, 113, 114, 115, 116, 117, 118, 119, 120, 121, 122, 123, 124, 125, 126, 127, 128, 129, 130, 131, 132, 133, 134, 135, 136, 137, 138, 139, 140, 141, 142, 143, 144, 145, 146, 147, 148, 149] (by decide +kernel) (by decide +kernel)
set_option maxRecDepth 20000 in
theorem gX3_moved_X3_does : GoodIn wsX3_moved (wsV RX3 209 RX3 yX3_does wsX3_does) := goodIn_app (goodIn_of _ (by decide +kernel)) ggX3_moved_X3_does
theorem dX3_moved_0 : decode cX3_moved 0 = .ok (.iconst 0, 1) := by decide +kernel
theorem dX3_moved_1 : decode cX3_moved 1 = .ok (.istore 5, 2) := by decide +kernel
theorem dX3_moved_3 : decode cX3_moved 3 = .ok (.iload 5, 2) := by decide +kernel
theorem dX3_moved_5 : decode cX3_moved 5 = .ok (.bipush 8, 2) := by decide +kernel
theorem dX3_moved_7 : decode cX3_moved 7 = .ok (.if_icmp .ge 65, 3) := by decide +kernel
theorem dX3_moved_10 : decode cX3_moved 10 = .ok (.aload_n 0, 1) := by decide +kernel
theorem dX3_moved_11 : decode cX3_moved 11 = .ok (.getfield 39, 3) := by decide +kernel
theorem dX3_moved_14 : decode cX3_moved 14 = .ok (.iload 5, 2) := by decide +kernel
theorem dX3_moved_16 : decode cX3_moved 16 = .ok (.aload_n 0, 1) := by decide +kernel
theorem dX3_moved_17 : decode cX3_moved 17 = .ok (.getfield 13, 3) := by decide +kernel
theorem dX3_moved_20 : decode cX3_moved 20 = .ok (.iload 5, 2) := by decide +kernel
theorem dX3_moved_22 : decode cX3_moved 22 = .ok (.laload, 1) := by decide +kernel
theorem dX3_moved_23 : decode cX3_moved 23 = .ok (.lastore, 1) := by decide +kernel
theorem dX3_moved_24 : decode cX3_moved 24 = .ok (.aload_n 0, 1) := by decide +kernel
theorem dX3_moved_25 : decode cX3_moved 25 = .ok (.getfield 42, 3) := by decide +kernel
theorem dX3_moved_28 : decode cX3_moved 28 = .ok (.iload 5, 2) := by decide +kernel
theorem dX3_moved_30 : decode cX3_moved 30 = .ok (.aload_n 0, 1) := by decide +kernel
theorem dX3_moved_31 : decode cX3_moved 31 = .ok (.getfield 17, 3) := by decide +kernel
theorem dX3_moved_34 : decode cX3_moved 34 = .ok (.iload 5, 2) := by decide +kernel
theorem dX3_moved_36 : decode cX3_moved 36 = .ok (.iaload, 1) := by decide +kernel
theorem dX3_moved_37 : decode cX3_moved 37 = .ok (.iastore, 1) := by decide +kernel
theorem dX3_moved_38 : decode cX3_moved 38 = .ok (.aload_n 0, 1) := by decide +kernel
theorem dX3_moved_39 : decode cX3_moved 39 = .ok (.getfield 45, 3) := by decide +kernel
theorem dX3_moved_42 : decode cX3_moved 42 = .ok (.iload 5, 2) := by decide +kernel
theorem dX3_moved_44 : decode cX3_moved 44 = .ok (.aload_n 0, 1) := by decide +kernel
theorem dX3_moved_45 : decode cX3_moved 45 = .ok (.getfield 21, 3) := by decide +kernel
theorem dX3_moved_48 : decode cX3_moved 48 = .ok (.iload 5, 2) := by decide +kernel
theorem dX3_moved_50 : decode cX3_moved 50 = .ok (.iaload, 1) := by decide +kernel
theorem dX3_moved_51 : decode cX3_moved 51 = .ok (.iastore, 1) := by decide +kernel
theorem dX3_moved_52 : decode cX3_moved 52 = .ok (.aload_n 0, 1) := by decide +kernel
theorem dX3_moved_53 : decode cX3_moved 53 = .ok (.getfield 48, 3) := by decide +kernel
theorem dX3_moved_56 : decode cX3_moved 56 = .ok (.iload 5, 2) := by decide +kernel
theorem dX3_moved_58 : decode cX3_moved 58 = .ok (.aload_n 0, 1) := by decide +kernel
theorem dX3_moved_59 : decode cX3_moved 59 = .ok (.getfield 24, 3) := by decide +kernel
theorem dX3_moved_62 : decode cX3_moved 62 = .ok (.iload 5, 2) := by decide +kernel
theorem dX3_moved_64 : decode cX3_moved 64 = .ok (.laload, 1) := by decide +kernel
theorem dX3_moved_65 : decode cX3_moved 65 = .ok (.lastore, 1) := by decide +kernel
theorem dX3_moved_66 : decode cX3_moved 66 = .ok (.iinc 5 1, 3) := by decide +kernel
theorem dX3_moved_69 : decode cX3_moved 69 = .ok (.goto (-66), 3) := by decide +kernel
theorem dX3_moved_72 : decode cX3_moved 72 = .ok (.aload_n 0, 1) := by decide +kernel
theorem dX3_moved_73 : decode cX3_moved 73 = .ok (.iload_n 1, 1) := by decide +kernel
theorem dX3_moved_74 : decode cX3_moved 74 = .ok (.iload_n 2, 1) := by decide +kernel
theorem dX3_moved_75 : decode cX3_moved 75 = .ok (.iload_n 3, 1) := by decide +kernel
theorem dX3_moved_76 : decode cX3_moved 76 = .ok (.invokevirtual 209, 3) := by decide +kernel
theorem dX3_moved_79 : decode cX3_moved 79 = .ok (.iconst 0, 1) := by decide +kernel
theorem dX3_moved_80 : decode cX3_moved 80 = .ok (.istore 5, 2) := by decide +kernel
theorem dX3_moved_82 : decode cX3_moved 82 = .ok (.iconst 0, 1) := by decide +kernel
theorem dX3_moved_83 : decode cX3_moved 83 = .ok (.istore 6, 2) := by decide +kernel
theorem dX3_moved_85 : decode cX3_moved 85 = .ok (.iload 6, 2) := by decide +kernel
theorem dX3_moved_87 : decode cX3_moved 87 = .ok (.bipush 8, 2) := by decide +kernel
theorem dX3_moved_89 : decode cX3_moved 89 = .ok (.if_icmp .ge 159, 3) := by decide +kernel
theorem dX3_moved_92 : decode cX3_moved 92 = .ok (.aload_n 0, 1) := by decide +kernel
theorem dX3_moved_93 : decode cX3_moved 93 = .ok (.getfield 13, 3) := by decide +kernel
theorem dX3_moved_96 : decode cX3_moved 96 = .ok (.iload 6, 2) := by decide +kernel
theorem dX3_moved_98 : decode cX3_moved 98 = .ok (.laload, 1) := by decide +kernel
theorem dX3_moved_99 : decode cX3_moved 99 = .ok (.aload_n 0, 1) := by decide +kernel
theorem dX3_moved_100 : decode cX3_moved 100 = .ok (.getfield 39, 3) := by decide +kernel
theorem dX3_moved_103 : decode cX3_moved 103 = .ok (.iload 6, 2) := by decide +kernel
theorem dX3_moved_105 : decode cX3_moved 105 = .ok (.laload, 1) := by decide +kernel
theorem dX3_moved_106 : decode cX3_moved 106 = .ok (.lcmp, 1) := by decide +kernel
theorem dX3_moved_107 : decode cX3_moved 107 = .ok (.ifCond .eq 7, 3) := by decide +kernel
theorem dX3_moved_110 : decode cX3_moved 110 = .ok (.iconst 1, 1) := by decide +kernel
theorem dX3_moved_111 : decode cX3_moved 111 = .ok (.goto 4, 3) := by decide +kernel
theorem dX3_moved_114 : decode cX3_moved 114 = .ok (.iconst 0, 1) := by decide +kernel
theorem dX3_moved_115 : decode cX3_moved 115 = .ok (.istore 7, 2) := by decide +kernel
theorem dX3_moved_117 : decode cX3_moved 117 = .ok (.aload_n 0, 1) := by decide +kernel
theorem dX3_moved_118 : decode cX3_moved 118 = .ok (.getfield 17, 3) := by decide +kernel
theorem dX3_moved_121 : decode cX3_moved 121 = .ok (.iload 6, 2) := by decide +kernel
theorem dX3_moved_123 : decode cX3_moved 123 = .ok (.iaload, 1) := by decide +kernel
theorem dX3_moved_124 : decode cX3_moved 124 = .ok (.aload_n 0, 1) := by decide +kernel
theorem dX3_moved_125 : decode cX3_moved 125 = .ok (.getfield 42, 3) := by decide +kernel
theorem dX3_moved_128 : decode cX3_moved 128 = .ok (.iload 6, 2) := by decide +kernel
theorem dX3_moved_130 : decode cX3_moved 130 = .ok (.iaload, 1) := by decide +kernel
theorem dX3_moved_131 : decode cX3_moved 131 = .ok (.if_icmp .eq 7, 3) := by decide +kernel
theorem dX3_moved_134 : decode cX3_moved 134 = .ok (.iconst 1, 1) := by decide +kernel
theorem dX3_moved_135 : decode cX3_moved 135 = .ok (.goto 4, 3) := by decide +kernel
theorem dX3_moved_138 : decode cX3_moved 138 = .ok (.iconst 0, 1) := by decide +kernel
theorem dX3_moved_139 : decode cX3_moved 139 = .ok (.istore 8, 2) := by decide +kernel
theorem dX3_moved_141 : decode cX3_moved 141 = .ok (.aload_n 0, 1) := by decide +kernel
theorem dX3_moved_142 : decode cX3_moved 142 = .ok (.getfield 21, 3) := by decide +kernel
theorem dX3_moved_145 : decode cX3_moved 145 = .ok (.iload 6, 2) := by decide +kernel
theorem dX3_moved_147 : decode cX3_moved 147 = .ok (.iaload, 1) := by decide +kernel
theorem dX3_moved_148 : decode cX3_moved 148 = .ok (.aload_n 0, 1) := by decide +kernel
theorem dX3_moved_149 : decode cX3_moved 149 = .ok (.getfield 45, 3) := by decide +kernel
theorem dX3_moved_152 : decode cX3_moved 152 = .ok (.iload 6, 2) := by decide +kernel
theorem dX3_moved_154 : decode cX3_moved 154 = .ok (.iaload, 1) := by decide +kernel
theorem dX3_moved_155 : decode cX3_moved 155 = .ok (.if_icmp .eq 7, 3) := by decide +kernel
theorem dX3_moved_158 : decode cX3_moved 158 = .ok (.iconst 1, 1) := by decide +kernel
theorem dX3_moved_159 : decode cX3_moved 159 = .ok (.goto 4, 3) := by decide +kernel
theorem dX3_moved_162 : decode cX3_moved 162 = .ok (.iconst 0, 1) := by decide +kernel
theorem dX3_moved_163 : decode cX3_moved 163 = .ok (.istore 9, 2) := by decide +kernel
theorem dX3_moved_165 : decode cX3_moved 165 = .ok (.aload_n 0, 1) := by decide +kernel
theorem dX3_moved_166 : decode cX3_moved 166 = .ok (.getfield 24, 3) := by decide +kernel
theorem dX3_moved_169 : decode cX3_moved 169 = .ok (.iload 6, 2) := by decide +kernel
theorem dX3_moved_171 : decode cX3_moved 171 = .ok (.laload, 1) := by decide +kernel
theorem dX3_moved_172 : decode cX3_moved 172 = .ok (.aload_n 0, 1) := by decide +kernel
theorem dX3_moved_173 : decode cX3_moved 173 = .ok (.getfield 48, 3) := by decide +kernel
theorem dX3_moved_176 : decode cX3_moved 176 = .ok (.iload 6, 2) := by decide +kernel
theorem dX3_moved_178 : decode cX3_moved 178 = .ok (.laload, 1) := by decide +kernel
theorem dX3_moved_179 : decode cX3_moved 179 = .ok (.lcmp, 1) := by decide +kernel
theorem dX3_moved_180 : decode cX3_moved 180 = .ok (.ifCond .eq 7, 3) := by decide +kernel
theorem dX3_moved_183 : decode cX3_moved 183 = .ok (.iconst 1, 1) := by decide +kernel
theorem dX3_moved_184 : decode cX3_moved 184 = .ok (.goto 4, 3) := by decide +kernel
theorem dX3_moved_187 : decode cX3_moved 187 = .ok (.iconst 0, 1) := by decide +kernel
theorem dX3_moved_188 : decode cX3_moved 188 = .ok (.istore 10, 2) := by decide +kernel
theorem dX3_moved_190 : decode cX3_moved 190 = .ok (.aload 4, 2) := by decide +kernel
theorem dX3_moved_192 : decode cX3_moved 192 = .ok (.iconst 0, 1) := by decide +kernel
theorem dX3_moved_193 : decode cX3_moved 193 = .ok (.dup2, 1) := by decide +kernel
theorem dX3_moved_194 : decode cX3_moved 194 = .ok (.iaload, 1) := by decide +kernel
theorem dX3_moved_195 : decode cX3_moved 195 = .ok (.iload 7, 2) := by decide +kernel
theorem dX3_moved_197 : decode cX3_moved 197 = .ok (.iadd, 1) := by decide +kernel
theorem dX3_moved_198 : decode cX3_moved 198 = .ok (.iastore, 1) := by decide +kernel
theorem dX3_moved_199 : decode cX3_moved 199 = .ok (.aload 4, 2) := by decide +kernel
theorem dX3_moved_201 : decode cX3_moved 201 = .ok (.iconst 1, 1) := by decide +kernel
theorem dX3_moved_202 : decode cX3_moved 202 = .ok (.dup2, 1) := by decide +kernel
theorem dX3_moved_203 : decode cX3_moved 203 = .ok (.iaload, 1) := by decide +kernel
theorem dX3_moved_204 : decode cX3_moved 204 = .ok (.iload 8, 2) := by decide +kernel
theorem dX3_moved_206 : decode cX3_moved 206 = .ok (.iadd, 1) := by decide +kernel
theorem dX3_moved_207 : decode cX3_moved 207 = .ok (.iastore, 1) := by decide +kernel
theorem dX3_moved_208 : decode cX3_moved 208 = .ok (.aload 4, 2) := by decide +kernel
theorem dX3_moved_210 : decode cX3_moved 210 = .ok (.iconst 2, 1) := by decide +kernel
theorem dX3_moved_211 : decode cX3_moved 211 = .ok (.dup2, 1) := by decide +kernel
theorem dX3_moved_212 : decode cX3_moved 212 = .ok (.iaload, 1) := by decide +kernel
theorem dX3_moved_213 : decode cX3_moved 213 = .ok (.iload 9, 2) := by decide +kernel
theorem dX3_moved_215 : decode cX3_moved 215 = .ok (.iadd, 1) := by decide +kernel
theorem dX3_moved_216 : decode cX3_moved 216 = .ok (.iastore, 1) := by decide +kernel
theorem dX3_moved_217 : decode cX3_moved 217 = .ok (.aload 4, 2) := by decide +kernel
theorem dX3_moved_219 : decode cX3_moved 219 = .ok (.iconst 3, 1) := by decide +kernel
theorem dX3_moved_220 : decode cX3_moved 220 = .ok (.dup2, 1) := by decide +kernel
theorem dX3_moved_221 : decode cX3_moved 221 = .ok (.iaload, 1) := by decide +kernel
theorem dX3_moved_222 : decode cX3_moved 222 = .ok (.iload 10, 2) := by decide +kernel
theorem dX3_moved_224 : decode cX3_moved 224 = .ok (.iadd, 1) := by decide +kernel
theorem dX3_moved_225 : decode cX3_moved 225 = .ok (.iastore, 1) := by decide +kernel
theorem dX3_moved_226 : decode cX3_moved 226 = .ok (.iload 5, 2) := by decide +kernel
theorem dX3_moved_228 : decode cX3_moved 228 = .ok (.iload 7, 2) := by decide +kernel
theorem dX3_moved_230 : decode cX3_moved 230 = .ok (.iload 8, 2) := by decide +kernel
theorem dX3_moved_232 : decode cX3_moved 232 = .ok (.iadd, 1) := by decide +kernel
theorem dX3_moved_233 : decode cX3_moved 233 = .ok (.iload 9, 2) := by decide +kernel
theorem dX3_moved_235 : decode cX3_moved 235 = .ok (.iadd, 1) := by decide +kernel
theorem dX3_moved_236 : decode cX3_moved 236 = .ok (.iload 10, 2) := by decide +kernel
theorem dX3_moved_238 : decode cX3_moved 238 = .ok (.iadd, 1) := by decide +kernel
theorem dX3_moved_239 : decode cX3_moved 239 = .ok (.iadd, 1) := by decide +kernel
theorem dX3_moved_240 : decode cX3_moved 240 = .ok (.istore 5, 2) := by decide +kernel
theorem dX3_moved_242 : decode cX3_moved 242 = .ok (.iinc 6 1, 3) := by decide +kernel
theorem dX3_moved_245 : decode cX3_moved 245 = .ok (.goto (-160), 3) := by decide +kernel
theorem dX3_moved_248 : decode cX3_moved 248 = .ok (.iload 5, 2) := by decide +kernel
theorem dX3_moved_250 : decode cX3_moved 250 = .ok (.ireturn, 1) := by decide +kernel
set_option maxRecDepth 20000 in
theorem ggX3_move_X3_lackOf : GoodIn wsX3_move wsX3_lackOf := goodIn_r _ [7, 8, 9, 10, 6, 11, 12, 13, 14, 15, 16, 17, 18, 150, 151, 152, 153, 154, 155, 156, 157, 158, 159, 160, 161, 162, 163, 164, 165, 166, 167, 168, 169, 170] (by decide +kernel) (by decide +kernel)
set_option maxRecDepth 20000 in
theorem gX3_move_X3_lackOf : GoodIn wsX3_move (wsV RX3 213 RX3 yX3_lackOf wsX3_lackOf) := goodIn_app (goodIn_of _ (by decide +kernel)) ggX3_move_X3_lackOf
set_option maxRecDepth 20000 in
theorem ggX3_move_X3_moved : GoodIn wsX3_move wsX3_moved := goodIn_r _ [22, 23, 24, 25, 26, 27, 28, 29, 30, 31, 32, 33, 6, 34, 35, 36, 37, 38, 39, 40, 41, 42, 43, 44, 45, 46, 47, 48, 49, 50, 51, 52, 53, 54, 55, 56, 57, 58, 59, 60, 61, 62, 63, 64, 65, 66, 67, 68, 69, 70, 71, 72, 73, 74, 75, 76, 77, 78, 79, 80, 81, 82, 83, 84, 85, 86, 87, 88, 89, 90, 91, 92, 93, 94, 95, 96, 97, 98, 99, 100, 101, 102, 103, 104, 105, 106, 107, 108, 109, 110, 111, 112, 113, 114, 115, 116, 117, 118, 119, 120, 121, 122, 123, 124, 125, 126, 127, 128, 129, 130, 131, 132, 133, 134, 135, 136, 137, 138, 139, 140, 141, 142, 143, 144, 145, 146, 147, 148, 149, 150, 151, 152, 153, 154, 155, 156, 157, 158, 159, 160, 161, 162, 163, 164, 165, 166, 167, 168, 169, 170] (by decide +kernel) (by decide +kernel)
set_option maxRecDepth 20000 in
theorem gX3_move_X3_moved : GoodIn wsX3_move (wsV RX3 217 RX3 yX3_moved wsX3_moved) := goodIn_app (goodIn_of _ (by decide +kernel)) ggX3_move_X3_moved
theorem dX3_move_0 : decode cX3_move 0 = .ok (.aload_n 0, 1) := by decide +kernel
theorem dX3_move_1 : decode cX3_move 1 = .ok (.aload_n 0, 1) := by decide +kernel
theorem dX3_move_2 : decode cX3_move 2 = .ok (.iload_n 1, 1) := by decide +kernel
theorem dX3_move_3 : decode cX3_move 3 = .ok (.iload_n 2, 1) := by decide +kernel
theorem dX3_move_4 : decode cX3_move 4 = .ok (.iload_n 3, 1) := by decide +kernel
theorem dX3_move_5 : decode cX3_move 5 = .ok (.invokevirtual 213, 3) := by decide +kernel
theorem dX3_move_8 : decode cX3_move 8 = .ok (.putfield 114, 3) := by decide +kernel
theorem dX3_move_11 : decode cX3_move 11 = .ok (.aload_n 0, 1) := by decide +kernel
theorem dX3_move_12 : decode cX3_move 12 = .ok (.getfield 114, 3) := by decide +kernel
theorem dX3_move_15 : decode cX3_move 15 = .ok (.ifCond .le 7, 3) := by decide +kernel
theorem dX3_move_18 : decode cX3_move 18 = .ok (.iconst (-1), 1) := by decide +kernel
theorem dX3_move_19 : decode cX3_move 19 = .ok (.goto 14, 3) := by decide +kernel
theorem dX3_move_22 : decode cX3_move 22 = .ok (.aload_n 0, 1) := by decide +kernel
theorem dX3_move_23 : decode cX3_move 23 = .ok (.iload_n 1, 1) := by decide +kernel
theorem dX3_move_24 : decode cX3_move 24 = .ok (.iload_n 2, 1) := by decide +kernel
theorem dX3_move_25 : decode cX3_move 25 = .ok (.iload_n 3, 1) := by decide +kernel
theorem dX3_move_26 : decode cX3_move 26 = .ok (.aload_n 0, 1) := by decide +kernel
theorem dX3_move_27 : decode cX3_move 27 = .ok (.getfield 51, 3) := by decide +kernel
theorem dX3_move_30 : decode cX3_move 30 = .ok (.invokevirtual 217, 3) := by decide +kernel
theorem dX3_move_33 : decode cX3_move 33 = .ok (.ireturn, 1) := by decide +kernel
theorem dX3_step_0 : decode cX3_step 0 = .ok (.aload_n 0, 1) := by decide +kernel
theorem dX3_step_1 : decode cX3_step 1 = .ok (.getfield 221, 3) := by decide +kernel
theorem dX3_step_4 : decode cX3_step 4 = .ok (.bipush 40, 2) := by decide +kernel
theorem dX3_step_6 : decode cX3_step 6 = .ok (.if_icmp .ne 5, 3) := by decide +kernel
theorem dX3_step_9 : decode cX3_step 9 = .ok (.iconst (-1), 1) := by decide +kernel
theorem dX3_step_10 : decode cX3_step 10 = .ok (.ireturn, 1) := by decide +kernel
theorem dX3_step_11 : decode cX3_step 11 = .ok (.aload_n 0, 1) := by decide +kernel
theorem dX3_step_12 : decode cX3_step 12 = .ok (.getfield 33, 3) := by decide +kernel
theorem dX3_step_15 : decode cX3_step 15 = .ok (.iconst 3, 1) := by decide +kernel
theorem dX3_step_16 : decode cX3_step 16 = .ok (.aload_n 0, 1) := by decide +kernel
theorem dX3_step_17 : decode cX3_step 17 = .ok (.getfield 221, 3) := by decide +kernel
theorem dX3_step_20 : decode cX3_step 20 = .ok (.imul, 1) := by decide +kernel
theorem dX3_step_21 : decode cX3_step 21 = .ok (.iload_n 1, 1) := by decide +kernel
theorem dX3_step_22 : decode cX3_step 22 = .ok (.iastore, 1) := by decide +kernel
theorem dX3_step_23 : decode cX3_step 23 = .ok (.aload_n 0, 1) := by decide +kernel
theorem dX3_step_24 : decode cX3_step 24 = .ok (.getfield 33, 3) := by decide +kernel
theorem dX3_step_27 : decode cX3_step 27 = .ok (.iconst 3, 1) := by decide +kernel
theorem dX3_step_28 : decode cX3_step 28 = .ok (.aload_n 0, 1) := by decide +kernel
theorem dX3_step_29 : decode cX3_step 29 = .ok (.getfield 221, 3) := by decide +kernel
theorem dX3_step_32 : decode cX3_step 32 = .ok (.imul, 1) := by decide +kernel
theorem dX3_step_33 : decode cX3_step 33 = .ok (.iconst 1, 1) := by decide +kernel
theorem dX3_step_34 : decode cX3_step 34 = .ok (.iadd, 1) := by decide +kernel
theorem dX3_step_35 : decode cX3_step 35 = .ok (.iload_n 2, 1) := by decide +kernel
theorem dX3_step_36 : decode cX3_step 36 = .ok (.iastore, 1) := by decide +kernel
theorem dX3_step_37 : decode cX3_step 37 = .ok (.aload_n 0, 1) := by decide +kernel
theorem dX3_step_38 : decode cX3_step 38 = .ok (.getfield 33, 3) := by decide +kernel
theorem dX3_step_41 : decode cX3_step 41 = .ok (.iconst 3, 1) := by decide +kernel
theorem dX3_step_42 : decode cX3_step 42 = .ok (.aload_n 0, 1) := by decide +kernel
theorem dX3_step_43 : decode cX3_step 43 = .ok (.getfield 221, 3) := by decide +kernel
theorem dX3_step_46 : decode cX3_step 46 = .ok (.imul, 1) := by decide +kernel
theorem dX3_step_47 : decode cX3_step 47 = .ok (.iconst 2, 1) := by decide +kernel
theorem dX3_step_48 : decode cX3_step 48 = .ok (.iadd, 1) := by decide +kernel
theorem dX3_step_49 : decode cX3_step 49 = .ok (.iload_n 3, 1) := by decide +kernel
theorem dX3_step_50 : decode cX3_step 50 = .ok (.iastore, 1) := by decide +kernel
theorem dX3_step_51 : decode cX3_step 51 = .ok (.aload_n 0, 1) := by decide +kernel
theorem dX3_step_52 : decode cX3_step 52 = .ok (.dup, 1) := by decide +kernel
theorem dX3_step_53 : decode cX3_step 53 = .ok (.getfield 221, 3) := by decide +kernel
theorem dX3_step_56 : decode cX3_step 56 = .ok (.iconst 1, 1) := by decide +kernel
theorem dX3_step_57 : decode cX3_step 57 = .ok (.iadd, 1) := by decide +kernel
theorem dX3_step_58 : decode cX3_step 58 = .ok (.putfield 221, 3) := by decide +kernel
theorem dX3_step_61 : decode cX3_step 61 = .ok (.aload_n 0, 1) := by decide +kernel
theorem dX3_step_62 : decode cX3_step 62 = .ok (.getfield 221, 3) := by decide +kernel
theorem dX3_step_65 : decode cX3_step 65 = .ok (.ireturn, 1) := by decide +kernel
theorem dX3_forget_0 : decode cX3_forget 0 = .ok (.aload_n 0, 1) := by decide +kernel
theorem dX3_forget_1 : decode cX3_forget 1 = .ok (.getfield 221, 3) := by decide +kernel
