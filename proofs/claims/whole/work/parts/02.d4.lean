theorem dX3_forget_4 : decode cX3_forget 4 = .ok (.istore_n 1, 1) := by decide +kernel
theorem dX3_forget_5 : decode cX3_forget 5 = .ok (.aload_n 0, 1) := by decide +kernel
theorem dX3_forget_6 : decode cX3_forget 6 = .ok (.iconst 0, 1) := by decide +kernel
theorem dX3_forget_7 : decode cX3_forget 7 = .ok (.putfield 221, 3) := by decide +kernel
theorem dX3_forget_10 : decode cX3_forget 10 = .ok (.iload_n 1, 1) := by decide +kernel
theorem dX3_forget_11 : decode cX3_forget 11 = .ok (.ireturn, 1) := by decide +kernel
set_option maxRecDepth 20000 in
theorem ggX3_dance_X3_lackOf : GoodIn wsX3_dance wsX3_lackOf := goodIn_r _ [10, 11, 12, 13, 9, 14, 15, 16, 17, 18, 19, 20, 21, 153, 154, 155, 156, 157, 158, 159, 160, 161, 162, 163, 164, 165, 166, 167, 168, 169, 170, 171, 172, 173] (by decide +kernel) (by decide +kernel)
set_option maxRecDepth 20000 in
theorem gX3_dance_X3_lackOf : GoodIn wsX3_dance (wsV RX3 213 RX3 yX3_lackOf wsX3_lackOf) := goodIn_app (goodIn_of _ (by decide +kernel)) ggX3_dance_X3_lackOf
set_option maxRecDepth 20000 in
theorem ggX3_dance_X3_moved : GoodIn wsX3_dance wsX3_moved := goodIn_r _ [25, 26, 27, 28, 29, 30, 31, 32, 33, 34, 35, 36, 9, 37, 38, 39, 40, 41, 42, 43, 44, 45, 46, 47, 48, 49, 50, 51, 52, 53, 54, 55, 56, 57, 58, 59, 60, 61, 62, 63, 64, 65, 66, 67, 68, 69, 70, 71, 72, 73, 74, 75, 76, 77, 78, 79, 80, 81, 82, 83, 84, 85, 86, 87, 88, 89, 90, 91, 92, 93, 94, 95, 96, 97, 98, 99, 100, 101, 102, 103, 104, 105, 106, 107, 108, 109, 110, 111, 112, 113, 114, 115, 116, 117, 118, 119, 120, 121, 122, 123, 124, 125, 126, 127, 128, 129, 130, 131, 132, 133, 134, 135, 136, 137, 138, 139, 140, 141, 142, 143, 144, 145, 146, 147, 148, 149, 150, 151, 152, 153, 154, 155, 156, 157, 158, 159, 160, 161, 162, 163, 164, 165, 166, 167, 168, 169, 170, 171, 172, 173] (by decide +kernel) (by decide +kernel)
set_option maxRecDepth 20000 in
theorem gX3_dance_X3_moved : GoodIn wsX3_dance (wsV RX3 217 RX3 yX3_moved wsX3_moved) := goodIn_app (goodIn_of _ (by decide +kernel)) ggX3_dance_X3_moved
theorem dX3_dance_0 : decode cX3_dance 0 = .ok (.aload_n 0, 1) := by decide +kernel
theorem dX3_dance_1 : decode cX3_dance 1 = .ok (.iconst 0, 1) := by decide +kernel
theorem dX3_dance_2 : decode cX3_dance 2 = .ok (.putfield 114, 3) := by decide +kernel
theorem dX3_dance_5 : decode cX3_dance 5 = .ok (.iload_n 1, 1) := by decide +kernel
theorem dX3_dance_6 : decode cX3_dance 6 = .ok (.ifCond .lt 9, 3) := by decide +kernel
theorem dX3_dance_9 : decode cX3_dance 9 = .ok (.iload_n 1, 1) := by decide +kernel
theorem dX3_dance_10 : decode cX3_dance 10 = .ok (.bipush 50, 2) := by decide +kernel
theorem dX3_dance_12 : decode cX3_dance 12 = .ok (.if_icmp .le 5, 3) := by decide +kernel
theorem dX3_dance_15 : decode cX3_dance 15 = .ok (.iconst (-1), 1) := by decide +kernel
theorem dX3_dance_16 : decode cX3_dance 16 = .ok (.ireturn, 1) := by decide +kernel
theorem dX3_dance_17 : decode cX3_dance 17 = .ok (.aload_n 0, 1) := by decide +kernel
theorem dX3_dance_18 : decode cX3_dance 18 = .ok (.iconst (-1), 1) := by decide +kernel
theorem dX3_dance_19 : decode cX3_dance 19 = .ok (.putfield 224, 3) := by decide +kernel
theorem dX3_dance_22 : decode cX3_dance 22 = .ok (.iconst 0, 1) := by decide +kernel
theorem dX3_dance_23 : decode cX3_dance 23 = .ok (.istore_n 2, 1) := by decide +kernel
theorem dX3_dance_24 : decode cX3_dance 24 = .ok (.iload_n 2, 1) := by decide +kernel
theorem dX3_dance_25 : decode cX3_dance 25 = .ok (.iconst 4, 1) := by decide +kernel
theorem dX3_dance_26 : decode cX3_dance 26 = .ok (.if_icmp .ge 16, 3) := by decide +kernel
theorem dX3_dance_29 : decode cX3_dance 29 = .ok (.aload_n 0, 1) := by decide +kernel
theorem dX3_dance_30 : decode cX3_dance 30 = .ok (.getfield 36, 3) := by decide +kernel
theorem dX3_dance_33 : decode cX3_dance 33 = .ok (.iload_n 2, 1) := by decide +kernel
theorem dX3_dance_34 : decode cX3_dance 34 = .ok (.iconst 0, 1) := by decide +kernel
theorem dX3_dance_35 : decode cX3_dance 35 = .ok (.iastore, 1) := by decide +kernel
theorem dX3_dance_36 : decode cX3_dance 36 = .ok (.iinc 2 1, 3) := by decide +kernel
theorem dX3_dance_39 : decode cX3_dance 39 = .ok (.goto (-15), 3) := by decide +kernel
theorem dX3_dance_42 : decode cX3_dance 42 = .ok (.iconst 0, 1) := by decide +kernel
theorem dX3_dance_43 : decode cX3_dance 43 = .ok (.istore_n 2, 1) := by decide +kernel
theorem dX3_dance_44 : decode cX3_dance 44 = .ok (.iconst 0, 1) := by decide +kernel
theorem dX3_dance_45 : decode cX3_dance 45 = .ok (.istore_n 3, 1) := by decide +kernel
theorem dX3_dance_46 : decode cX3_dance 46 = .ok (.iload_n 3, 1) := by decide +kernel
theorem dX3_dance_47 : decode cX3_dance 47 = .ok (.iload_n 1, 1) := by decide +kernel
theorem dX3_dance_48 : decode cX3_dance 48 = .ok (.aload_n 0, 1) := by decide +kernel
theorem dX3_dance_49 : decode cX3_dance 49 = .ok (.getfield 221, 3) := by decide +kernel
theorem dX3_dance_52 : decode cX3_dance 52 = .ok (.imul, 1) := by decide +kernel
theorem dX3_dance_53 : decode cX3_dance 53 = .ok (.if_icmp .ge 115, 3) := by decide +kernel
theorem dX3_dance_56 : decode cX3_dance 56 = .ok (.iload_n 3, 1) := by decide +kernel
theorem dX3_dance_57 : decode cX3_dance 57 = .ok (.aload_n 0, 1) := by decide +kernel
theorem dX3_dance_58 : decode cX3_dance 58 = .ok (.getfield 221, 3) := by decide +kernel
theorem dX3_dance_61 : decode cX3_dance 61 = .ok (.irem, 1) := by decide +kernel
theorem dX3_dance_62 : decode cX3_dance 62 = .ok (.istore 4, 2) := by decide +kernel
theorem dX3_dance_64 : decode cX3_dance 64 = .ok (.aload_n 0, 1) := by decide +kernel
theorem dX3_dance_65 : decode cX3_dance 65 = .ok (.aload_n 0, 1) := by decide +kernel
theorem dX3_dance_66 : decode cX3_dance 66 = .ok (.aload_n 0, 1) := by decide +kernel
theorem dX3_dance_67 : decode cX3_dance 67 = .ok (.getfield 33, 3) := by decide +kernel
theorem dX3_dance_70 : decode cX3_dance 70 = .ok (.iconst 3, 1) := by decide +kernel
theorem dX3_dance_71 : decode cX3_dance 71 = .ok (.iload 4, 2) := by decide +kernel
theorem dX3_dance_73 : decode cX3_dance 73 = .ok (.imul, 1) := by decide +kernel
theorem dX3_dance_74 : decode cX3_dance 74 = .ok (.iaload, 1) := by decide +kernel
theorem dX3_dance_75 : decode cX3_dance 75 = .ok (.aload_n 0, 1) := by decide +kernel
theorem dX3_dance_76 : decode cX3_dance 76 = .ok (.getfield 33, 3) := by decide +kernel
theorem dX3_dance_79 : decode cX3_dance 79 = .ok (.iconst 3, 1) := by decide +kernel
theorem dX3_dance_80 : decode cX3_dance 80 = .ok (.iload 4, 2) := by decide +kernel
theorem dX3_dance_82 : decode cX3_dance 82 = .ok (.imul, 1) := by decide +kernel
theorem dX3_dance_83 : decode cX3_dance 83 = .ok (.iconst 1, 1) := by decide +kernel
theorem dX3_dance_84 : decode cX3_dance 84 = .ok (.iadd, 1) := by decide +kernel
theorem dX3_dance_85 : decode cX3_dance 85 = .ok (.iaload, 1) := by decide +kernel
theorem dX3_dance_86 : decode cX3_dance 86 = .ok (.aload_n 0, 1) := by decide +kernel
theorem dX3_dance_87 : decode cX3_dance 87 = .ok (.getfield 33, 3) := by decide +kernel
theorem dX3_dance_90 : decode cX3_dance 90 = .ok (.iconst 3, 1) := by decide +kernel
theorem dX3_dance_91 : decode cX3_dance 91 = .ok (.iload 4, 2) := by decide +kernel
theorem dX3_dance_93 : decode cX3_dance 93 = .ok (.imul, 1) := by decide +kernel
theorem dX3_dance_94 : decode cX3_dance 94 = .ok (.iconst 2, 1) := by decide +kernel
theorem dX3_dance_95 : decode cX3_dance 95 = .ok (.iadd, 1) := by decide +kernel
theorem dX3_dance_96 : decode cX3_dance 96 = .ok (.iaload, 1) := by decide +kernel
theorem dX3_dance_97 : decode cX3_dance 97 = .ok (.invokevirtual 213, 3) := by decide +kernel
theorem dX3_dance_100 : decode cX3_dance 100 = .ok (.putfield 114, 3) := by decide +kernel
theorem dX3_dance_103 : decode cX3_dance 103 = .ok (.aload_n 0, 1) := by decide +kernel
theorem dX3_dance_104 : decode cX3_dance 104 = .ok (.getfield 114, 3) := by decide +kernel
theorem dX3_dance_107 : decode cX3_dance 107 = .ok (.ifCond .le 11, 3) := by decide +kernel
theorem dX3_dance_110 : decode cX3_dance 110 = .ok (.aload_n 0, 1) := by decide +kernel
theorem dX3_dance_111 : decode cX3_dance 111 = .ok (.iload 4, 2) := by decide +kernel
theorem dX3_dance_113 : decode cX3_dance 113 = .ok (.putfield 224, 3) := by decide +kernel
theorem dX3_dance_116 : decode cX3_dance 116 = .ok (.iload_n 2, 1) := by decide +kernel
theorem dX3_dance_117 : decode cX3_dance 117 = .ok (.ireturn, 1) := by decide +kernel
theorem dX3_dance_118 : decode cX3_dance 118 = .ok (.aload_n 0, 1) := by decide +kernel
theorem dX3_dance_119 : decode cX3_dance 119 = .ok (.aload_n 0, 1) := by decide +kernel
theorem dX3_dance_120 : decode cX3_dance 120 = .ok (.getfield 33, 3) := by decide +kernel
theorem dX3_dance_123 : decode cX3_dance 123 = .ok (.iconst 3, 1) := by decide +kernel
theorem dX3_dance_124 : decode cX3_dance 124 = .ok (.iload 4, 2) := by decide +kernel
theorem dX3_dance_126 : decode cX3_dance 126 = .ok (.imul, 1) := by decide +kernel
theorem dX3_dance_127 : decode cX3_dance 127 = .ok (.iaload, 1) := by decide +kernel
theorem dX3_dance_128 : decode cX3_dance 128 = .ok (.aload_n 0, 1) := by decide +kernel
theorem dX3_dance_129 : decode cX3_dance 129 = .ok (.getfield 33, 3) := by decide +kernel
theorem dX3_dance_132 : decode cX3_dance 132 = .ok (.iconst 3, 1) := by decide +kernel
theorem dX3_dance_133 : decode cX3_dance 133 = .ok (.iload 4, 2) := by decide +kernel
theorem dX3_dance_135 : decode cX3_dance 135 = .ok (.imul, 1) := by decide +kernel
theorem dX3_dance_136 : decode cX3_dance 136 = .ok (.iconst 1, 1) := by decide +kernel
theorem dX3_dance_137 : decode cX3_dance 137 = .ok (.iadd, 1) := by decide +kernel
theorem dX3_dance_138 : decode cX3_dance 138 = .ok (.iaload, 1) := by decide +kernel
theorem dX3_dance_139 : decode cX3_dance 139 = .ok (.aload_n 0, 1) := by decide +kernel
theorem dX3_dance_140 : decode cX3_dance 140 = .ok (.getfield 33, 3) := by decide +kernel
theorem dX3_dance_143 : decode cX3_dance 143 = .ok (.iconst 3, 1) := by decide +kernel
theorem dX3_dance_144 : decode cX3_dance 144 = .ok (.iload 4, 2) := by decide +kernel
theorem dX3_dance_146 : decode cX3_dance 146 = .ok (.imul, 1) := by decide +kernel
theorem dX3_dance_147 : decode cX3_dance 147 = .ok (.iconst 2, 1) := by decide +kernel
theorem dX3_dance_148 : decode cX3_dance 148 = .ok (.iadd, 1) := by decide +kernel
theorem dX3_dance_149 : decode cX3_dance 149 = .ok (.iaload, 1) := by decide +kernel
theorem dX3_dance_150 : decode cX3_dance 150 = .ok (.aload_n 0, 1) := by decide +kernel
theorem dX3_dance_151 : decode cX3_dance 151 = .ok (.getfield 36, 3) := by decide +kernel
theorem dX3_dance_154 : decode cX3_dance 154 = .ok (.invokevirtual 217, 3) := by decide +kernel
theorem dX3_dance_157 : decode cX3_dance 157 = .ok (.istore 5, 2) := by decide +kernel
theorem dX3_dance_159 : decode cX3_dance 159 = .ok (.iinc 2 1, 3) := by decide +kernel
theorem dX3_dance_162 : decode cX3_dance 162 = .ok (.iinc 3 1, 3) := by decide +kernel
theorem dX3_dance_165 : decode cX3_dance 165 = .ok (.goto (-119), 3) := by decide +kernel
theorem dX3_dance_168 : decode cX3_dance 168 = .ok (.iload_n 2, 1) := by decide +kernel
theorem dX3_dance_169 : decode cX3_dance 169 = .ok (.ireturn, 1) := by decide +kernel
theorem dX3_danced_0 : decode cX3_danced 0 = .ok (.iload_n 1, 1) := by decide +kernel
theorem dX3_danced_1 : decode cX3_danced 1 = .ok (.ifCond .lt 8, 3) := by decide +kernel
theorem dX3_danced_4 : decode cX3_danced 4 = .ok (.iload_n 1, 1) := by decide +kernel
theorem dX3_danced_5 : decode cX3_danced 5 = .ok (.iconst 4, 1) := by decide +kernel
theorem dX3_danced_6 : decode cX3_danced 6 = .ok (.if_icmp .le 7, 3) := by decide +kernel
theorem dX3_danced_9 : decode cX3_danced 9 = .ok (.iconst (-1), 1) := by decide +kernel
theorem dX3_danced_10 : decode cX3_danced 10 = .ok (.goto 22, 3) := by decide +kernel
theorem dX3_danced_13 : decode cX3_danced 13 = .ok (.iload_n 1, 1) := by decide +kernel
theorem dX3_danced_14 : decode cX3_danced 14 = .ok (.ifCond .ne 10, 3) := by decide +kernel
theorem dX3_danced_17 : decode cX3_danced 17 = .ok (.aload_n 0, 1) := by decide +kernel
theorem dX3_danced_18 : decode cX3_danced 18 = .ok (.getfield 224, 3) := by decide +kernel
theorem dX3_danced_21 : decode cX3_danced 21 = .ok (.goto 11, 3) := by decide +kernel
theorem dX3_danced_24 : decode cX3_danced 24 = .ok (.aload_n 0, 1) := by decide +kernel
theorem dX3_danced_25 : decode cX3_danced 25 = .ok (.getfield 36, 3) := by decide +kernel
theorem dX3_danced_28 : decode cX3_danced 28 = .ok (.iload_n 1, 1) := by decide +kernel
theorem dX3_danced_29 : decode cX3_danced 29 = .ok (.iconst 1, 1) := by decide +kernel
theorem dX3_danced_30 : decode cX3_danced 30 = .ok (.isub, 1) := by decide +kernel
theorem dX3_danced_31 : decode cX3_danced 31 = .ok (.iaload, 1) := by decide +kernel
theorem dX3_danced_32 : decode cX3_danced 32 = .ok (.ireturn, 1) := by decide +kernel
theorem dX3_bar_0 : decode cX3_bar 0 = .ok (.iload_n 1, 1) := by decide +kernel
theorem dX3_bar_1 : decode cX3_bar 1 = .ok (.ifCond .ne 10, 3) := by decide +kernel
theorem dX3_bar_4 : decode cX3_bar 4 = .ok (.aload_n 0, 1) := by decide +kernel
theorem dX3_bar_5 : decode cX3_bar 5 = .ok (.getfield 153, 3) := by decide +kernel
theorem dX3_bar_8 : decode cX3_bar 8 = .ok (.goto 42, 3) := by decide +kernel
theorem dX3_bar_11 : decode cX3_bar 11 = .ok (.iload_n 1, 1) := by decide +kernel
theorem dX3_bar_12 : decode cX3_bar 12 = .ok (.iconst 1, 1) := by decide +kernel
theorem dX3_bar_13 : decode cX3_bar 13 = .ok (.if_icmp .ne 11, 3) := by decide +kernel
theorem dX3_bar_16 : decode cX3_bar 16 = .ok (.aload_n 0, 1) := by decide +kernel
theorem dX3_bar_17 : decode cX3_bar 17 = .ok (.getfield 157, 3) := by decide +kernel
theorem dX3_bar_20 : decode cX3_bar 20 = .ok (.i2l, 1) := by decide +kernel
theorem dX3_bar_21 : decode cX3_bar 21 = .ok (.goto 29, 3) := by decide +kernel
theorem dX3_bar_24 : decode cX3_bar 24 = .ok (.iload_n 1, 1) := by decide +kernel
theorem dX3_bar_25 : decode cX3_bar 25 = .ok (.iconst 2, 1) := by decide +kernel
theorem dX3_bar_26 : decode cX3_bar 26 = .ok (.if_icmp .ne 11, 3) := by decide +kernel
theorem dX3_bar_29 : decode cX3_bar 29 = .ok (.aload_n 0, 1) := by decide +kernel
theorem dX3_bar_30 : decode cX3_bar 30 = .ok (.getfield 161, 3) := by decide +kernel
theorem dX3_bar_33 : decode cX3_bar 33 = .ok (.i2l, 1) := by decide +kernel
theorem dX3_bar_34 : decode cX3_bar 34 = .ok (.goto 16, 3) := by decide +kernel
theorem dX3_bar_37 : decode cX3_bar 37 = .ok (.iload_n 1, 1) := by decide +kernel
theorem dX3_bar_38 : decode cX3_bar 38 = .ok (.iconst 3, 1) := by decide +kernel
theorem dX3_bar_39 : decode cX3_bar 39 = .ok (.if_icmp .ne 10, 3) := by decide +kernel
theorem dX3_bar_42 : decode cX3_bar 42 = .ok (.aload_n 0, 1) := by decide +kernel
theorem dX3_bar_43 : decode cX3_bar 43 = .ok (.getfield 164, 3) := by decide +kernel
theorem dX3_bar_46 : decode cX3_bar 46 = .ok (.goto 4, 3) := by decide +kernel
theorem dX3_bar_49 : decode cX3_bar 49 = .ok (.lconst 0, 1) := by decide +kernel
theorem dX3_bar_50 : decode cX3_bar 50 = .ok (.lreturn, 1) := by decide +kernel
set_option maxRecDepth 20000 in
theorem ggX3_isAhead_X3_place : GoodIn wsX3_isAhead wsX3_place := goodIn_r _ [9, 10] (by decide +kernel) (by decide +kernel)
set_option maxRecDepth 20000 in
theorem gX3_isAhead_X3_place : GoodIn wsX3_isAhead (va_wsS RX3 97 yX3_place wsX3_place) := goodIn_app (goodIn_of _ (by decide +kernel)) ggX3_isAhead_X3_place
set_option maxRecDepth 20000 in
theorem ggX3_isAhead_X3_place4 : GoodIn wsX3_isAhead wsX3_place4 := goodIn_r _ [13, 14] (by decide +kernel) (by decide +kernel)
set_option maxRecDepth 20000 in
theorem gX3_isAhead_X3_place4 : GoodIn wsX3_isAhead (va_wsS RX3 101 yX3_place4 wsX3_place4) := goodIn_app (goodIn_of _ (by decide +kernel)) ggX3_isAhead_X3_place4
theorem dX3_isAhead_0 : decode cX3_isAhead 0 = .ok (.aload_n 0, 1) := by decide +kernel
theorem dX3_isAhead_1 : decode cX3_isAhead 1 = .ok (.getfield 7, 3) := by decide +kernel
theorem dX3_isAhead_4 : decode cX3_isAhead 4 = .ok (.iload_n 1, 1) := by decide +kernel
theorem dX3_isAhead_5 : decode cX3_isAhead 5 = .ok (.baload, 1) := by decide +kernel
theorem dX3_isAhead_6 : decode cX3_isAhead 6 = .ok (.aload_n 0, 1) := by decide +kernel
theorem dX3_isAhead_7 : decode cX3_isAhead 7 = .ok (.getfield 7, 3) := by decide +kernel
theorem dX3_isAhead_10 : decode cX3_isAhead 10 = .ok (.iload_n 2, 1) := by decide +kernel
theorem dX3_isAhead_11 : decode cX3_isAhead 11 = .ok (.baload, 1) := by decide +kernel
theorem dX3_isAhead_12 : decode cX3_isAhead 12 = .ok (.if_icmp .eq 10, 3) := by decide +kernel
theorem dX3_isAhead_15 : decode cX3_isAhead 15 = .ok (.aload_n 0, 1) := by decide +kernel
theorem dX3_isAhead_16 : decode cX3_isAhead 16 = .ok (.getfield 7, 3) := by decide +kernel
theorem dX3_isAhead_19 : decode cX3_isAhead 19 = .ok (.iload_n 2, 1) := by decide +kernel
theorem dX3_isAhead_20 : decode cX3_isAhead 20 = .ok (.baload, 1) := by decide +kernel
theorem dX3_isAhead_21 : decode cX3_isAhead 21 = .ok (.ireturn, 1) := by decide +kernel
theorem dX3_isAhead_22 : decode cX3_isAhead 22 = .ok (.aload_n 0, 1) := by decide +kernel
theorem dX3_isAhead_23 : decode cX3_isAhead 23 = .ok (.getfield 7, 3) := by decide +kernel
theorem dX3_isAhead_26 : decode cX3_isAhead 26 = .ok (.iload_n 1, 1) := by decide +kernel
theorem dX3_isAhead_27 : decode cX3_isAhead 27 = .ok (.baload, 1) := by decide +kernel
theorem dX3_isAhead_28 : decode cX3_isAhead 28 = .ok (.ifCond .eq 14, 3) := by decide +kernel
theorem dX3_isAhead_31 : decode cX3_isAhead 31 = .ok (.iload_n 1, 1) := by decide +kernel
theorem dX3_isAhead_32 : decode cX3_isAhead 32 = .ok (.iload_n 2, 1) := by decide +kernel
theorem dX3_isAhead_33 : decode cX3_isAhead 33 = .ok (.if_icmp .ge 7, 3) := by decide +kernel
theorem dX3_isAhead_36 : decode cX3_isAhead 36 = .ok (.iconst 1, 1) := by decide +kernel
theorem dX3_isAhead_37 : decode cX3_isAhead 37 = .ok (.goto 4, 3) := by decide +kernel
theorem dX3_isAhead_40 : decode cX3_isAhead 40 = .ok (.iconst 0, 1) := by decide +kernel
theorem dX3_isAhead_41 : decode cX3_isAhead 41 = .ok (.ireturn, 1) := by decide +kernel
theorem dX3_isAhead_42 : decode cX3_isAhead 42 = .ok (.aload_n 0, 1) := by decide +kernel
theorem dX3_isAhead_43 : decode cX3_isAhead 43 = .ok (.getfield 13, 3) := by decide +kernel
theorem dX3_isAhead_46 : decode cX3_isAhead 46 = .ok (.iload_n 1, 1) := by decide +kernel
theorem dX3_isAhead_47 : decode cX3_isAhead 47 = .ok (.laload, 1) := by decide +kernel
theorem dX3_isAhead_48 : decode cX3_isAhead 48 = .ok (.aload_n 0, 1) := by decide +kernel
theorem dX3_isAhead_49 : decode cX3_isAhead 49 = .ok (.getfield 13, 3) := by decide +kernel
theorem dX3_isAhead_52 : decode cX3_isAhead 52 = .ok (.iload_n 2, 1) := by decide +kernel
theorem dX3_isAhead_53 : decode cX3_isAhead 53 = .ok (.laload, 1) := by decide +kernel
theorem dX3_isAhead_54 : decode cX3_isAhead 54 = .ok (.lcmp, 1) := by decide +kernel
theorem dX3_isAhead_55 : decode cX3_isAhead 55 = .ok (.ifCond .eq 31, 3) := by decide +kernel
theorem dX3_isAhead_58 : decode cX3_isAhead 58 = .ok (.aload_n 0, 1) := by decide +kernel
theorem dX3_isAhead_59 : decode cX3_isAhead 59 = .ok (.getfield 13, 3) := by decide +kernel
theorem dX3_isAhead_62 : decode cX3_isAhead 62 = .ok (.iload_n 1, 1) := by decide +kernel
theorem dX3_isAhead_63 : decode cX3_isAhead 63 = .ok (.laload, 1) := by decide +kernel
theorem dX3_isAhead_64 : decode cX3_isAhead 64 = .ok (.invokestatic 97, 3) := by decide +kernel
theorem dX3_isAhead_67 : decode cX3_isAhead 67 = .ok (.aload_n 0, 1) := by decide +kernel
theorem dX3_isAhead_68 : decode cX3_isAhead 68 = .ok (.getfield 13, 3) := by decide +kernel
theorem dX3_isAhead_71 : decode cX3_isAhead 71 = .ok (.iload_n 2, 1) := by decide +kernel
theorem dX3_isAhead_72 : decode cX3_isAhead 72 = .ok (.laload, 1) := by decide +kernel
theorem dX3_isAhead_73 : decode cX3_isAhead 73 = .ok (.invokestatic 97, 3) := by decide +kernel
theorem dX3_isAhead_76 : decode cX3_isAhead 76 = .ok (.lcmp, 1) := by decide +kernel
theorem dX3_isAhead_77 : decode cX3_isAhead 77 = .ok (.ifCond .ge 7, 3) := by decide +kernel
theorem dX3_isAhead_80 : decode cX3_isAhead 80 = .ok (.iconst 1, 1) := by decide +kernel
theorem dX3_isAhead_81 : decode cX3_isAhead 81 = .ok (.goto 4, 3) := by decide +kernel
theorem dX3_isAhead_84 : decode cX3_isAhead 84 = .ok (.iconst 0, 1) := by decide +kernel
theorem dX3_isAhead_85 : decode cX3_isAhead 85 = .ok (.ireturn, 1) := by decide +kernel
theorem dX3_isAhead_86 : decode cX3_isAhead 86 = .ok (.aload_n 0, 1) := by decide +kernel
theorem dX3_isAhead_87 : decode cX3_isAhead 87 = .ok (.getfield 17, 3) := by decide +kernel
theorem dX3_isAhead_90 : decode cX3_isAhead 90 = .ok (.iload_n 1, 1) := by decide +kernel
theorem dX3_isAhead_91 : decode cX3_isAhead 91 = .ok (.iaload, 1) := by decide +kernel
theorem dX3_isAhead_92 : decode cX3_isAhead 92 = .ok (.aload_n 0, 1) := by decide +kernel
theorem dX3_isAhead_93 : decode cX3_isAhead 93 = .ok (.getfield 17, 3) := by decide +kernel
theorem dX3_isAhead_96 : decode cX3_isAhead 96 = .ok (.iload_n 2, 1) := by decide +kernel
theorem dX3_isAhead_97 : decode cX3_isAhead 97 = .ok (.iaload, 1) := by decide +kernel
theorem dX3_isAhead_98 : decode cX3_isAhead 98 = .ok (.if_icmp .eq 30, 3) := by decide +kernel
theorem dX3_isAhead_101 : decode cX3_isAhead 101 = .ok (.aload_n 0, 1) := by decide +kernel
theorem dX3_isAhead_102 : decode cX3_isAhead 102 = .ok (.getfield 17, 3) := by decide +kernel
theorem dX3_isAhead_105 : decode cX3_isAhead 105 = .ok (.iload_n 1, 1) := by decide +kernel
theorem dX3_isAhead_106 : decode cX3_isAhead 106 = .ok (.iaload, 1) := by decide +kernel
theorem dX3_isAhead_107 : decode cX3_isAhead 107 = .ok (.invokestatic 101, 3) := by decide +kernel
theorem dX3_isAhead_110 : decode cX3_isAhead 110 = .ok (.aload_n 0, 1) := by decide +kernel
theorem dX3_isAhead_111 : decode cX3_isAhead 111 = .ok (.getfield 17, 3) := by decide +kernel
theorem dX3_isAhead_114 : decode cX3_isAhead 114 = .ok (.iload_n 2, 1) := by decide +kernel
theorem dX3_isAhead_115 : decode cX3_isAhead 115 = .ok (.iaload, 1) := by decide +kernel
theorem dX3_isAhead_116 : decode cX3_isAhead 116 = .ok (.invokestatic 101, 3) := by decide +kernel
theorem dX3_isAhead_119 : decode cX3_isAhead 119 = .ok (.if_icmp .ge 7, 3) := by decide +kernel
theorem dX3_isAhead_122 : decode cX3_isAhead 122 = .ok (.iconst 1, 1) := by decide +kernel
theorem dX3_isAhead_123 : decode cX3_isAhead 123 = .ok (.goto 4, 3) := by decide +kernel
theorem dX3_isAhead_126 : decode cX3_isAhead 126 = .ok (.iconst 0, 1) := by decide +kernel
theorem dX3_isAhead_127 : decode cX3_isAhead 127 = .ok (.ireturn, 1) := by decide +kernel
theorem dX3_isAhead_128 : decode cX3_isAhead 128 = .ok (.aload_n 0, 1) := by decide +kernel
theorem dX3_isAhead_129 : decode cX3_isAhead 129 = .ok (.getfield 21, 3) := by decide +kernel
theorem dX3_isAhead_132 : decode cX3_isAhead 132 = .ok (.iload_n 1, 1) := by decide +kernel
theorem dX3_isAhead_133 : decode cX3_isAhead 133 = .ok (.iaload, 1) := by decide +kernel
theorem dX3_isAhead_134 : decode cX3_isAhead 134 = .ok (.aload_n 0, 1) := by decide +kernel
theorem dX3_isAhead_135 : decode cX3_isAhead 135 = .ok (.getfield 21, 3) := by decide +kernel
theorem dX3_isAhead_138 : decode cX3_isAhead 138 = .ok (.iload_n 2, 1) := by decide +kernel
theorem dX3_isAhead_139 : decode cX3_isAhead 139 = .ok (.iaload, 1) := by decide +kernel
theorem dX3_isAhead_140 : decode cX3_isAhead 140 = .ok (.if_icmp .eq 24, 3) := by decide +kernel
theorem dX3_isAhead_143 : decode cX3_isAhead 143 = .ok (.aload_n 0, 1) := by decide +kernel
theorem dX3_isAhead_144 : decode cX3_isAhead 144 = .ok (.getfield 21, 3) := by decide +kernel
theorem dX3_isAhead_147 : decode cX3_isAhead 147 = .ok (.iload_n 1, 1) := by decide +kernel
theorem dX3_isAhead_148 : decode cX3_isAhead 148 = .ok (.iaload, 1) := by decide +kernel
theorem dX3_isAhead_149 : decode cX3_isAhead 149 = .ok (.aload_n 0, 1) := by decide +kernel
theorem dX3_isAhead_150 : decode cX3_isAhead 150 = .ok (.getfield 21, 3) := by decide +kernel
theorem dX3_isAhead_153 : decode cX3_isAhead 153 = .ok (.iload_n 2, 1) := by decide +kernel
theorem dX3_isAhead_154 : decode cX3_isAhead 154 = .ok (.iaload, 1) := by decide +kernel
theorem dX3_isAhead_155 : decode cX3_isAhead 155 = .ok (.if_icmp .ge 7, 3) := by decide +kernel
theorem dX3_isAhead_158 : decode cX3_isAhead 158 = .ok (.iconst 1, 1) := by decide +kernel
theorem dX3_isAhead_159 : decode cX3_isAhead 159 = .ok (.goto 4, 3) := by decide +kernel
theorem dX3_isAhead_162 : decode cX3_isAhead 162 = .ok (.iconst 0, 1) := by decide +kernel
theorem dX3_isAhead_163 : decode cX3_isAhead 163 = .ok (.ireturn, 1) := by decide +kernel
theorem dX3_isAhead_164 : decode cX3_isAhead 164 = .ok (.aload_n 0, 1) := by decide +kernel
theorem dX3_isAhead_165 : decode cX3_isAhead 165 = .ok (.getfield 24, 3) := by decide +kernel
theorem dX3_isAhead_168 : decode cX3_isAhead 168 = .ok (.iload_n 1, 1) := by decide +kernel
theorem dX3_isAhead_169 : decode cX3_isAhead 169 = .ok (.laload, 1) := by decide +kernel
theorem dX3_isAhead_170 : decode cX3_isAhead 170 = .ok (.aload_n 0, 1) := by decide +kernel
theorem dX3_isAhead_171 : decode cX3_isAhead 171 = .ok (.getfield 24, 3) := by decide +kernel
theorem dX3_isAhead_174 : decode cX3_isAhead 174 = .ok (.iload_n 2, 1) := by decide +kernel
theorem dX3_isAhead_175 : decode cX3_isAhead 175 = .ok (.laload, 1) := by decide +kernel
theorem dX3_isAhead_176 : decode cX3_isAhead 176 = .ok (.lcmp, 1) := by decide +kernel
theorem dX3_isAhead_177 : decode cX3_isAhead 177 = .ok (.ifCond .eq 27, 3) := by decide +kernel
theorem dX3_isAhead_180 : decode cX3_isAhead 180 = .ok (.aload_n 0, 1) := by decide +kernel
theorem dX3_isAhead_181 : decode cX3_isAhead 181 = .ok (.getfield 24, 3) := by decide +kernel
theorem dX3_isAhead_184 : decode cX3_isAhead 184 = .ok (.iload_n 1, 1) := by decide +kernel
theorem dX3_isAhead_185 : decode cX3_isAhead 185 = .ok (.laload, 1) := by decide +kernel
theorem dX3_isAhead_186 : decode cX3_isAhead 186 = .ok (.aload_n 0, 1) := by decide +kernel
theorem dX3_isAhead_187 : decode cX3_isAhead 187 = .ok (.getfield 24, 3) := by decide +kernel
theorem dX3_isAhead_190 : decode cX3_isAhead 190 = .ok (.iload_n 2, 1) := by decide +kernel
theorem dX3_isAhead_191 : decode cX3_isAhead 191 = .ok (.laload, 1) := by decide +kernel
theorem dX3_isAhead_192 : decode cX3_isAhead 192 = .ok (.lcmp, 1) := by decide +kernel
theorem dX3_isAhead_193 : decode cX3_isAhead 193 = .ok (.ifCond .ge 7, 3) := by decide +kernel
theorem dX3_isAhead_196 : decode cX3_isAhead 196 = .ok (.iconst 1, 1) := by decide +kernel
theorem dX3_isAhead_197 : decode cX3_isAhead 197 = .ok (.goto 17, 3) := by decide +kernel
theorem dX3_isAhead_200 : decode cX3_isAhead 200 = .ok (.iconst 0, 1) := by decide +kernel
theorem dX3_isAhead_201 : decode cX3_isAhead 201 = .ok (.goto 13, 3) := by decide +kernel
theorem dX3_isAhead_204 : decode cX3_isAhead 204 = .ok (.iload_n 1, 1) := by decide +kernel
theorem dX3_isAhead_205 : decode cX3_isAhead 205 = .ok (.iload_n 2, 1) := by decide +kernel
theorem dX3_isAhead_206 : decode cX3_isAhead 206 = .ok (.if_icmp .ge 7, 3) := by decide +kernel
theorem dX3_isAhead_209 : decode cX3_isAhead 209 = .ok (.iconst 1, 1) := by decide +kernel
theorem dX3_isAhead_210 : decode cX3_isAhead 210 = .ok (.goto 4, 3) := by decide +kernel
theorem dX3_isAhead_213 : decode cX3_isAhead 213 = .ok (.iconst 0, 1) := by decide +kernel
theorem dX3_isAhead_214 : decode cX3_isAhead 214 = .ok (.ireturn, 1) := by decide +kernel
set_option maxRecDepth 20000 in
theorem ggX3_order_X3_isAhead : GoodIn wsX3_order wsX3_isAhead := goodIn_r _ [5, 6, 7, 8, 9, 10, 11, 12, 4, 13, 14, 15, 16, 17, 18, 19, 20, 21, 22, 23, 24, 25, 26, 27, 28, 29, 30, 31, 32, 33, 34, 35, 36, 37, 38, 39] (by decide +kernel) (by decide +kernel)
set_option maxRecDepth 20000 in
theorem gX3_order_X3_isAhead : GoodIn wsX3_order (wsV RX3 227 RX3 yX3_isAhead wsX3_isAhead) := goodIn_app (goodIn_of _ (by decide +kernel)) ggX3_order_X3_isAhead
theorem dX3_order_0 : decode cX3_order 0 = .ok (.iconst 0, 1) := by decide +kernel
theorem dX3_order_1 : decode cX3_order 1 = .ok (.istore_n 2, 1) := by decide +kernel
theorem dX3_order_2 : decode cX3_order 2 = .ok (.iload_n 2, 1) := by decide +kernel
theorem dX3_order_3 : decode cX3_order 3 = .ok (.bipush 8, 2) := by decide +kernel
theorem dX3_order_5 : decode cX3_order 5 = .ok (.if_icmp .ge 58, 3) := by decide +kernel
theorem dX3_order_8 : decode cX3_order 8 = .ok (.iconst 0, 1) := by decide +kernel
theorem dX3_order_9 : decode cX3_order 9 = .ok (.istore_n 3, 1) := by decide +kernel
theorem dX3_order_10 : decode cX3_order 10 = .ok (.iconst 0, 1) := by decide +kernel
theorem dX3_order_11 : decode cX3_order 11 = .ok (.istore 4, 2) := by decide +kernel
theorem dX3_order_13 : decode cX3_order 13 = .ok (.iload 4, 2) := by decide +kernel
theorem dX3_order_15 : decode cX3_order 15 = .ok (.bipush 8, 2) := by decide +kernel
theorem dX3_order_17 : decode cX3_order 17 = .ok (.if_icmp .ge 33, 3) := by decide +kernel
theorem dX3_order_20 : decode cX3_order 20 = .ok (.iload_n 3, 1) := by decide +kernel
theorem dX3_order_21 : decode cX3_order 21 = .ok (.iload 4, 2) := by decide +kernel
theorem dX3_order_23 : decode cX3_order 23 = .ok (.iload_n 2, 1) := by decide +kernel
theorem dX3_order_24 : decode cX3_order 24 = .ok (.if_icmp .eq 17, 3) := by decide +kernel
theorem dX3_order_27 : decode cX3_order 27 = .ok (.aload_n 0, 1) := by decide +kernel
theorem dX3_order_28 : decode cX3_order 28 = .ok (.iload 4, 2) := by decide +kernel
theorem dX3_order_30 : decode cX3_order 30 = .ok (.iload_n 2, 1) := by decide +kernel
theorem dX3_order_31 : decode cX3_order 31 = .ok (.invokevirtual 227, 3) := by decide +kernel
theorem dX3_order_34 : decode cX3_order 34 = .ok (.ifCond .eq 7, 3) := by decide +kernel
theorem dX3_order_37 : decode cX3_order 37 = .ok (.iconst 1, 1) := by decide +kernel
theorem dX3_order_38 : decode cX3_order 38 = .ok (.goto 4, 3) := by decide +kernel
theorem dX3_order_41 : decode cX3_order 41 = .ok (.iconst 0, 1) := by decide +kernel
theorem dX3_order_42 : decode cX3_order 42 = .ok (.iadd, 1) := by decide +kernel
theorem dX3_order_43 : decode cX3_order 43 = .ok (.istore_n 3, 1) := by decide +kernel
theorem dX3_order_44 : decode cX3_order 44 = .ok (.iinc 4 1, 3) := by decide +kernel
theorem dX3_order_47 : decode cX3_order 47 = .ok (.goto (-34), 3) := by decide +kernel
theorem dX3_order_50 : decode cX3_order 50 = .ok (.iload_n 3, 1) := by decide +kernel
theorem dX3_order_51 : decode cX3_order 51 = .ok (.iload_n 1, 1) := by decide +kernel
theorem dX3_order_52 : decode cX3_order 52 = .ok (.if_icmp .ne 5, 3) := by decide +kernel
theorem dX3_order_55 : decode cX3_order 55 = .ok (.iload_n 2, 1) := by decide +kernel
theorem dX3_order_56 : decode cX3_order 56 = .ok (.ireturn, 1) := by decide +kernel
theorem dX3_order_57 : decode cX3_order 57 = .ok (.iinc 2 1, 3) := by decide +kernel
theorem dX3_order_60 : decode cX3_order 60 = .ok (.goto (-58), 3) := by decide +kernel
theorem dX3_order_63 : decode cX3_order 63 = .ok (.iconst (-1), 1) := by decide +kernel
theorem dX3_order_64 : decode cX3_order 64 = .ok (.ireturn, 1) := by decide +kernel
theorem dJ6_compare_7cf53_0 : decode cJ6_compare_7cf53 0 = .ok (.iload_n 0, 1) := by decide +kernel
theorem dJ6_compare_7cf53_1 : decode cJ6_compare_7cf53 1 = .ok (.iload_n 1, 1) := by decide +kernel
theorem dJ6_compare_7cf53_2 : decode cJ6_compare_7cf53 2 = .ok (.if_icmp .ge 7, 3) := by decide +kernel
theorem dJ6_compare_7cf53_5 : decode cJ6_compare_7cf53 5 = .ok (.iconst (-1), 1) := by decide +kernel
theorem dJ6_compare_7cf53_6 : decode cJ6_compare_7cf53 6 = .ok (.goto 13, 3) := by decide +kernel
theorem dJ6_compare_7cf53_9 : decode cJ6_compare_7cf53 9 = .ok (.iload_n 0, 1) := by decide +kernel
theorem dJ6_compare_7cf53_10 : decode cJ6_compare_7cf53 10 = .ok (.iload_n 1, 1) := by decide +kernel
theorem dJ6_compare_7cf53_11 : decode cJ6_compare_7cf53 11 = .ok (.if_icmp .ne 7, 3) := by decide +kernel
theorem dJ6_compare_7cf53_14 : decode cJ6_compare_7cf53 14 = .ok (.iconst 0, 1) := by decide +kernel
theorem dJ6_compare_7cf53_15 : decode cJ6_compare_7cf53 15 = .ok (.goto 4, 3) := by decide +kernel
theorem dJ6_compare_7cf53_18 : decode cJ6_compare_7cf53 18 = .ok (.iconst 1, 1) := by decide +kernel
theorem dJ6_compare_7cf53_19 : decode cJ6_compare_7cf53 19 = .ok (.ireturn, 1) := by decide +kernel
theorem dJ13_compare_74951_0 : decode cJ13_compare_74951 0 = .ok (.lload_n 0, 1) := by decide +kernel
theorem dJ13_compare_74951_1 : decode cJ13_compare_74951 1 = .ok (.lload_n 2, 1) := by decide +kernel
theorem dJ13_compare_74951_2 : decode cJ13_compare_74951 2 = .ok (.lcmp, 1) := by decide +kernel
theorem dJ13_compare_74951_3 : decode cJ13_compare_74951 3 = .ok (.ifCond .ge 7, 3) := by decide +kernel
theorem dJ13_compare_74951_6 : decode cJ13_compare_74951 6 = .ok (.iconst (-1), 1) := by decide +kernel
theorem dJ13_compare_74951_7 : decode cJ13_compare_74951 7 = .ok (.goto 14, 3) := by decide +kernel
theorem dJ13_compare_74951_10 : decode cJ13_compare_74951 10 = .ok (.lload_n 0, 1) := by decide +kernel
theorem dJ13_compare_74951_11 : decode cJ13_compare_74951 11 = .ok (.lload_n 2, 1) := by decide +kernel
theorem dJ13_compare_74951_12 : decode cJ13_compare_74951 12 = .ok (.lcmp, 1) := by decide +kernel
theorem dJ13_compare_74951_13 : decode cJ13_compare_74951 13 = .ok (.ifCond .ne 7, 3) := by decide +kernel
theorem dJ13_compare_74951_16 : decode cJ13_compare_74951 16 = .ok (.iconst 0, 1) := by decide +kernel
theorem dJ13_compare_74951_17 : decode cJ13_compare_74951 17 = .ok (.goto 4, 3) := by decide +kernel
theorem dJ13_compare_74951_20 : decode cJ13_compare_74951 20 = .ok (.iconst 1, 1) := by decide +kernel
theorem dJ13_compare_74951_21 : decode cJ13_compare_74951 21 = .ok (.ireturn, 1) := by decide +kernel
theorem dJ9_abs_0f7a4_0 : decode cJ9_abs_0f7a4 0 = .ok (.iload_n 0, 1) := by decide +kernel
theorem dJ9_abs_0f7a4_1 : decode cJ9_abs_0f7a4 1 = .ok (.ifCond .ge 8, 3) := by decide +kernel
theorem dJ9_abs_0f7a4_4 : decode cJ9_abs_0f7a4 4 = .ok (.iload_n 0, 1) := by decide +kernel
theorem dJ9_abs_0f7a4_5 : decode cJ9_abs_0f7a4 5 = .ok (.ineg, 1) := by decide +kernel
theorem dJ9_abs_0f7a4_6 : decode cJ9_abs_0f7a4 6 = .ok (.goto 4, 3) := by decide +kernel
theorem dJ9_abs_0f7a4_9 : decode cJ9_abs_0f7a4 9 = .ok (.iload_n 0, 1) := by decide +kernel
theorem dJ9_abs_0f7a4_10 : decode cJ9_abs_0f7a4 10 = .ok (.ireturn, 1) := by decide +kernel
theorem dJ9_abs_067f4_0 : decode cJ9_abs_067f4 0 = .ok (.lload_n 0, 1) := by decide +kernel
theorem dJ9_abs_067f4_1 : decode cJ9_abs_067f4 1 = .ok (.lconst 0, 1) := by decide +kernel
theorem dJ9_abs_067f4_2 : decode cJ9_abs_067f4 2 = .ok (.lcmp, 1) := by decide +kernel
theorem dJ9_abs_067f4_3 : decode cJ9_abs_067f4 3 = .ok (.ifCond .ge 8, 3) := by decide +kernel
theorem dJ9_abs_067f4_6 : decode cJ9_abs_067f4 6 = .ok (.lload_n 0, 1) := by decide +kernel
theorem dJ9_abs_067f4_7 : decode cJ9_abs_067f4 7 = .ok (.lneg, 1) := by decide +kernel
theorem dJ9_abs_067f4_8 : decode cJ9_abs_067f4 8 = .ok (.goto 4, 3) := by decide +kernel
theorem dJ9_abs_067f4_11 : decode cJ9_abs_067f4 11 = .ok (.lload_n 0, 1) := by decide +kernel
theorem dJ9_abs_067f4_12 : decode cJ9_abs_067f4 12 = .ok (.lreturn, 1) := by decide +kernel
theorem dJ9_max_7cf53_0 : decode cJ9_max_7cf53 0 = .ok (.iload_n 0, 1) := by decide +kernel
theorem dJ9_max_7cf53_1 : decode cJ9_max_7cf53 1 = .ok (.iload_n 1, 1) := by decide +kernel
theorem dJ9_max_7cf53_2 : decode cJ9_max_7cf53 2 = .ok (.if_icmp .lt 7, 3) := by decide +kernel
theorem dJ9_max_7cf53_5 : decode cJ9_max_7cf53 5 = .ok (.iload_n 0, 1) := by decide +kernel
theorem dJ9_max_7cf53_6 : decode cJ9_max_7cf53 6 = .ok (.goto 4, 3) := by decide +kernel
theorem dJ9_max_7cf53_9 : decode cJ9_max_7cf53 9 = .ok (.iload_n 1, 1) := by decide +kernel
theorem dJ9_max_7cf53_10 : decode cJ9_max_7cf53 10 = .ok (.ireturn, 1) := by decide +kernel
theorem dJ9_max_f86c9_0 : decode cJ9_max_f86c9 0 = .ok (.lload_n 0, 1) := by decide +kernel
theorem dJ9_max_f86c9_1 : decode cJ9_max_f86c9 1 = .ok (.lload_n 2, 1) := by decide +kernel
theorem dJ9_max_f86c9_2 : decode cJ9_max_f86c9 2 = .ok (.lcmp, 1) := by decide +kernel
theorem dJ9_max_f86c9_3 : decode cJ9_max_f86c9 3 = .ok (.ifCond .lt 7, 3) := by decide +kernel
theorem dJ9_max_f86c9_6 : decode cJ9_max_f86c9 6 = .ok (.lload_n 0, 1) := by decide +kernel
theorem dJ9_max_f86c9_7 : decode cJ9_max_f86c9 7 = .ok (.goto 4, 3) := by decide +kernel
theorem dJ9_max_f86c9_10 : decode cJ9_max_f86c9 10 = .ok (.lload_n 2, 1) := by decide +kernel
theorem dJ9_max_f86c9_11 : decode cJ9_max_f86c9 11 = .ok (.lreturn, 1) := by decide +kernel
theorem dJ9_min_7cf53_0 : decode cJ9_min_7cf53 0 = .ok (.iload_n 0, 1) := by decide +kernel
theorem dJ9_min_7cf53_1 : decode cJ9_min_7cf53 1 = .ok (.iload_n 1, 1) := by decide +kernel
theorem dJ9_min_7cf53_2 : decode cJ9_min_7cf53 2 = .ok (.if_icmp .gt 7, 3) := by decide +kernel
theorem dJ9_min_7cf53_5 : decode cJ9_min_7cf53 5 = .ok (.iload_n 0, 1) := by decide +kernel
theorem dJ9_min_7cf53_6 : decode cJ9_min_7cf53 6 = .ok (.goto 4, 3) := by decide +kernel
theorem dJ9_min_7cf53_9 : decode cJ9_min_7cf53 9 = .ok (.iload_n 1, 1) := by decide +kernel
theorem dJ9_min_7cf53_10 : decode cJ9_min_7cf53 10 = .ok (.ireturn, 1) := by decide +kernel
theorem dJ9_min_f86c9_0 : decode cJ9_min_f86c9 0 = .ok (.lload_n 0, 1) := by decide +kernel
theorem dJ9_min_f86c9_1 : decode cJ9_min_f86c9 1 = .ok (.lload_n 2, 1) := by decide +kernel
theorem dJ9_min_f86c9_2 : decode cJ9_min_f86c9 2 = .ok (.lcmp, 1) := by decide +kernel
theorem dJ9_min_f86c9_3 : decode cJ9_min_f86c9 3 = .ok (.ifCond .gt 7, 3) := by decide +kernel
theorem dJ9_min_f86c9_6 : decode cJ9_min_f86c9 6 = .ok (.lload_n 0, 1) := by decide +kernel
theorem dJ9_min_f86c9_7 : decode cJ9_min_f86c9 7 = .ok (.goto 4, 3) := by decide +kernel
theorem dJ9_min_f86c9_10 : decode cJ9_min_f86c9 10 = .ok (.lload_n 2, 1) := by decide +kernel
theorem dJ9_min_f86c9_11 : decode cJ9_min_f86c9 11 = .ok (.lreturn, 1) := by decide +kernel
set_option maxRecDepth 20000 in
theorem ggL_law_X2_init : GoodIn wsL_law wsX2_init := goodIn_r _ [9, 10, 11, 12, 13, 14, 15, 16, 17, 18, 19, 20, 21, 22, 23, 24, 25, 26, 27, 28, 29, 30, 31, 32, 33, 34, 35, 36, 37, 38, 39, 40, 41, 42, 43, 2, 44, 45, 46, 550, 551, 552, 553, 554, 555, 556, 557, 558, 559, 560, 561, 562, 563, 564, 586, 587, 588, 589] (by decide +kernel) (by decide +kernel)
set_option maxRecDepth 20000 in
theorem gL_law_X2_init : GoodIn wsL_law (wsX2_init) := ggL_law_X2_init
set_option maxRecDepth 20000 in
theorem ggL_law_X3_init : GoodIn wsL_law wsX3_init := goodIn_r _ [49, 50, 11, 12, 21, 51, 13, 52, 15, 53, 54, 55, 56, 57, 58, 59, 60, 61, 62, 63, 64, 65, 66, 67, 5, 68, 69, 70, 71, 72, 73, 74, 75, 76, 77, 78, 79, 80, 81, 82, 565, 566, 567, 568, 569, 570, 571, 572, 573, 574, 575, 576, 577, 578, 579, 580, 581, 582, 583, 584, 585] (by decide +kernel) (by decide +kernel)
set_option maxRecDepth 20000 in
theorem gL_law_X3_init : GoodIn wsL_law (wsX3_init) := ggL_law_X3_init
set_option maxRecDepth 20000 in
theorem ggL_law_X2_set : GoodIn wsL_law wsX2_set := goodIn_r _ [86, 31, 87, 88, 89, 2, 90, 91, 92, 93, 94, 95, 96, 97, 98, 22, 99, 100, 101, 46, 102, 103, 104, 105, 106, 107, 108, 109, 110, 111, 112, 113, 114, 115, 14, 16, 17, 18, 19, 20, 550, 551, 552, 553, 554, 555, 556, 557, 558, 559, 560, 561, 562, 563, 564] (by decide +kernel) (by decide +kernel)
set_option maxRecDepth 20000 in
theorem gL_law_X2_set : GoodIn wsL_law (wsV RL 15 RX2 yX2_set wsX2_set) := goodIn_app (goodIn_of _ (by decide +kernel)) ggL_law_X2_set
set_option maxRecDepth 20000 in
theorem ggL_law_X3_set : GoodIn wsL_law wsX3_set := goodIn_r _ [119, 120, 52, 53, 54, 55, 56, 57, 121, 122, 123, 5, 124, 51, 125, 126, 127, 128, 129, 130, 131, 132, 133, 134, 135, 136, 137, 138, 139, 140, 141, 78, 79, 80, 81, 82, 69, 70, 71, 72, 73, 74, 75, 76, 77, 565, 566, 567, 568, 569, 570, 571, 572, 573, 574, 575, 576, 577, 578, 579, 580, 581, 582, 583, 584, 585] (by decide +kernel) (by decide +kernel)
set_option maxRecDepth 20000 in
theorem gL_law_X3_set : GoodIn wsL_law (wsV RL 19 RX3 yX3_set wsX3_set) := goodIn_app (goodIn_of _ (by decide +kernel)) ggL_law_X3_set
set_option maxRecDepth 20000 in
theorem ggL_law_X2_get : GoodIn wsL_law wsX2_get := goodIn_r _ [145, 31, 91, 92, 93, 2, 94, 95, 96, 97, 98, 22, 146, 147, 148, 149, 14, 16, 17, 18, 19, 20, 550, 551, 552, 553, 554, 555, 556, 557, 558, 559, 560, 561, 562, 563, 564] (by decide +kernel) (by decide +kernel)
set_option maxRecDepth 20000 in
theorem gL_law_X2_get : GoodIn wsL_law (wsV RL 20 RX2 yX2_get wsX2_get) := goodIn_app (goodIn_of _ (by decide +kernel)) ggL_law_X2_get
set_option maxRecDepth 20000 in
theorem ggL_law_X3_get : GoodIn wsL_law wsX3_get := goodIn_r _ [153, 120, 52, 53, 54, 55, 56, 57, 121, 122, 123, 5, 124, 51, 125, 126, 127, 565, 566, 567, 568, 569, 570, 571, 572, 573, 574, 575, 576, 577, 578, 579, 580, 581, 582, 583, 584, 585] (by decide +kernel) (by decide +kernel)
set_option maxRecDepth 20000 in
theorem gL_law_X3_get : GoodIn wsL_law (wsV RL 24 RX3 yX3_get wsX3_get) := goodIn_app (goodIn_of _ (by decide +kernel)) ggL_law_X3_get
set_option maxRecDepth 20000 in
theorem ggL_law_X2_refused : GoodIn wsL_law wsX2_refused := goodIn_r _ [157, 31, 550, 551, 552, 553, 554, 555, 556, 557, 558, 559, 560, 561, 562, 563, 564] (by decide +kernel) (by decide +kernel)
set_option maxRecDepth 20000 in
theorem gL_law_X2_refused : GoodIn wsL_law (wsV RL 25 RX2 yX2_refused wsX2_refused) := goodIn_app (goodIn_of _ (by decide +kernel)) ggL_law_X2_refused
set_option maxRecDepth 20000 in
theorem ggL_law_X3_refused : GoodIn wsL_law wsX3_refused := goodIn_r _ [161, 120, 565, 566, 567, 568, 569, 570, 571, 572, 573, 574, 575, 576, 577, 578, 579, 580, 581, 582, 583, 584, 585] (by decide +kernel) (by decide +kernel)
set_option maxRecDepth 20000 in
theorem gL_law_X3_refused : GoodIn wsL_law (wsV RL 29 RX3 yX3_refused wsX3_refused) := goodIn_app (goodIn_of _ (by decide +kernel)) ggL_law_X3_refused
set_option maxRecDepth 20000 in
theorem ggL_law_X2_cut : GoodIn wsL_law wsX2_cut := goodIn_r _ [165, 31, 22, 95, 96, 97, 2, 98, 550, 551, 552, 553, 554, 555, 556, 557, 558, 559, 560, 561, 562, 563, 564] (by decide +kernel) (by decide +kernel)
set_option maxRecDepth 20000 in
theorem gL_law_X2_cut : GoodIn wsL_law (wsV RL 30 RX2 yX2_cut wsX2_cut) := goodIn_app (goodIn_of _ (by decide +kernel)) ggL_law_X2_cut
set_option maxRecDepth 20000 in
theorem ggL_law_X3_cut : GoodIn wsL_law wsX3_cut := goodIn_r _ [169, 120, 51, 121, 122, 123, 5, 124, 125, 126, 127, 565, 566, 567, 568, 569, 570, 571, 572, 573, 574, 575, 576, 577, 578, 579, 580, 581, 582, 583, 584, 585] (by decide +kernel) (by decide +kernel)
set_option maxRecDepth 20000 in
theorem gL_law_X3_cut : GoodIn wsL_law (wsV RL 34 RX3 yX3_cut wsX3_cut) := goodIn_app (goodIn_of _ (by decide +kernel)) ggL_law_X3_cut
set_option maxRecDepth 20000 in
theorem ggL_law_X2_string : GoodIn wsL_law wsX2_string := goodIn_r _ [173, 31, 174, 175, 176, 2, 177, 95, 96, 97, 98, 22, 41, 42, 43, 44, 14, 16, 17, 18, 19, 45, 20, 46, 550, 551, 552, 553, 554, 555, 556, 557, 558, 559, 560, 561, 562, 563, 564] (by decide +kernel) (by decide +kernel)
set_option maxRecDepth 20000 in
theorem gL_law_X2_string : GoodIn wsL_law (wsV RL 35 RX2 yX2_string wsX2_string) := goodIn_app (goodIn_of _ (by decide +kernel)) ggL_law_X2_string
set_option maxRecDepth 20000 in
theorem ggL_law_X3_string : GoodIn wsL_law wsX3_string := goodIn_r _ [181, 51, 120, 125, 126, 5, 127, 65, 66, 67, 68, 52, 53, 54, 55, 56, 57, 69, 70, 71, 72, 73, 74, 75, 76, 77, 78, 79, 80, 81, 82, 565, 566, 567, 568, 569, 570, 571, 572, 573, 574, 575, 576, 577, 578, 579, 580, 581, 582, 583, 584, 585] (by decide +kernel) (by decide +kernel)
set_option maxRecDepth 20000 in
theorem gL_law_X3_string : GoodIn wsL_law (wsV RL 38 RX3 yX3_string wsX3_string) := goodIn_app (goodIn_of _ (by decide +kernel)) ggL_law_X3_string
set_option maxRecDepth 20000 in
theorem ggL_law_X2_move : GoodIn wsL_law wsX2_move := goodIn_r _ [185, 31, 32, 186, 187, 188, 2, 189, 95, 96, 97, 98, 22, 190, 191, 192, 193, 194, 195, 196, 197, 198, 199, 200, 14, 16, 201, 202, 203, 204, 17, 205, 206, 207, 208, 18, 209, 210, 211, 103, 104, 105, 106, 107, 212, 213, 214, 215, 108, 109, 110, 111, 216, 217, 218, 219, 220, 221, 222, 223, 224, 225, 226, 227, 228, 229, 230, 231, 232, 233, 234, 235, 236, 237, 238, 239, 240, 241, 242, 243, 244, 245, 246, 247, 248, 249, 250, 251, 252, 253, 254, 255, 256, 257, 258, 259, 260, 261, 262, 263, 264, 265, 266, 267, 268, 269, 270, 271, 272, 273, 274, 275, 276, 277, 278, 279, 280, 281, 282, 283, 284, 285, 286, 287, 288, 289, 290, 291, 292, 293, 294, 295, 296, 297, 298, 299, 300, 301, 302, 303, 304, 305, 23, 306, 24, 307, 308, 309, 310, 311, 312, 313, 314, 315, 19, 20, 316, 317, 318, 319, 320, 321, 322, 323, 25, 26, 324, 325, 326, 327, 328, 329, 330, 331, 332, 333, 334, 335, 46, 336, 337, 338, 339, 340, 341, 342, 343, 344, 345, 346, 347, 348, 349, 350, 351, 550, 551, 552, 553, 554, 555, 556, 557, 558, 559, 560, 561, 562, 563, 564] (by decide +kernel) (by decide +kernel)
set_option maxRecDepth 20000 in
theorem gL_law_X2_move : GoodIn wsL_law (wsV RL 39 RX2 yX2_move wsX2_move) := goodIn_app (goodIn_of _ (by decide +kernel)) ggL_law_X2_move
set_option maxRecDepth 20000 in
theorem ggL_law_X3_move : GoodIn wsL_law wsX3_move := goodIn_r _ [355, 120, 64, 356, 357, 358, 5, 359, 121, 122, 123, 124, 51, 125, 126, 127, 360, 361, 362, 363, 364, 365, 366, 60, 52, 61, 53, 62, 54, 63, 55, 367, 368, 369, 370, 56, 57, 371, 372, 373, 374, 375, 376, 377, 378, 138, 139, 140, 141, 78, 79, 80, 81, 82, 379, 380, 381, 382, 383, 384, 385, 386, 387, 388, 389, 390, 391, 392, 393, 394, 395, 396, 397, 398, 399, 400, 401, 402, 403, 404, 405, 406, 407, 408, 409, 410, 411, 412, 413, 131, 132, 133, 134, 414, 415, 416, 73, 74, 75, 76, 77, 417, 418, 419, 420, 421, 422, 423, 424, 425, 426, 427, 428, 72, 429, 430, 431, 432, 433, 434, 435, 436, 437, 438, 439, 440, 441, 442, 443, 444, 445, 446, 447, 448, 449, 450, 451, 452, 453, 454, 455, 456, 457, 458, 69, 70, 71, 459, 460, 461, 565, 566, 567, 568, 569, 570, 571, 572, 573, 574, 575, 576, 577, 578, 579, 580, 581, 582, 583, 584, 585] (by decide +kernel) (by decide +kernel)
set_option maxRecDepth 20000 in
theorem gL_law_X3_move : GoodIn wsL_law (wsV RL 43 RX3 yX3_move wsX3_move) := goodIn_app (goodIn_of _ (by decide +kernel)) ggL_law_X3_move
set_option maxRecDepth 20000 in
theorem ggL_law_X2_step : GoodIn wsL_law wsX2_step := goodIn_r _ [465, 30, 466, 467, 468, 469, 550, 551, 552, 553, 554, 555, 556, 557, 558, 559, 560, 561, 562, 563, 564, 586, 587, 588, 589] (by decide +kernel) (by decide +kernel)
set_option maxRecDepth 20000 in
theorem gL_law_X2_step : GoodIn wsL_law (wsV RL 44 RX2 yX2_step wsX2_step) := goodIn_app (goodIn_of _ (by decide +kernel)) ggL_law_X2_step
set_option maxRecDepth 20000 in
theorem ggL_law_X3_step : GoodIn wsL_law wsX3_step := goodIn_r _ [473, 474, 58, 565, 566, 567, 568, 569, 570, 571, 572, 573, 574, 575, 576, 577, 578, 579, 580, 581, 582, 583, 584, 585] (by decide +kernel) (by decide +kernel)
set_option maxRecDepth 20000 in
theorem gL_law_X3_step : GoodIn wsL_law (wsV RL 47 RX3 yX3_step wsX3_step) := goodIn_app (goodIn_of _ (by decide +kernel)) ggL_law_X3_step
set_option maxRecDepth 20000 in
theorem ggL_law_X2_forget : GoodIn wsL_law wsX2_forget := goodIn_r _ [478, 30, 466, 550, 551, 552, 553, 554, 555, 556, 557, 558, 559, 560, 561, 562, 563, 564, 586, 587, 588, 589] (by decide +kernel) (by decide +kernel)
set_option maxRecDepth 20000 in
theorem gL_law_X2_forget : GoodIn wsL_law (wsV RL 48 RX2 yX2_forget wsX2_forget) := goodIn_app (goodIn_of _ (by decide +kernel)) ggL_law_X2_forget
set_option maxRecDepth 20000 in
theorem ggL_law_X3_forget : GoodIn wsL_law wsX3_forget := goodIn_r _ [482, 474, 565, 566, 567, 568, 569, 570, 571, 572, 573, 574, 575, 576, 577, 578, 579, 580, 581, 582, 583, 584, 585] (by decide +kernel) (by decide +kernel)
set_option maxRecDepth 20000 in
theorem gL_law_X3_forget : GoodIn wsL_law (wsV RL 51 RX3 yX3_forget wsX3_forget) := goodIn_app (goodIn_of _ (by decide +kernel)) ggL_law_X3_forget
set_option maxRecDepth 20000 in
theorem ggL_law_X2_dance : GoodIn wsL_law wsX2_dance := goodIn_r _ [486, 31, 193, 194, 195, 2, 196, 32, 487, 488, 489, 490, 30, 466, 467, 468, 469, 186, 187, 188, 189, 95, 96, 97, 98, 22, 190, 191, 192, 197, 198, 199, 200, 14, 16, 201, 202, 203, 204, 17, 205, 206, 207, 208, 18, 209, 210, 211, 103, 104, 105, 106, 107, 212, 213, 214, 215, 108, 109, 110, 111, 216, 217, 218, 219, 220, 221, 222, 223, 224, 225, 226, 227, 228, 229, 230, 231, 232, 233, 234, 235, 236, 237, 238, 239, 240, 241, 242, 243, 244, 245, 246, 247, 248, 249, 250, 251, 252, 253, 254, 255, 256, 257, 258, 259, 260, 261, 262, 263, 264, 265, 266, 267, 268, 269, 270, 271, 272, 273, 274, 275, 276, 277, 278, 279, 280, 281, 282, 283, 284, 285, 286, 287, 288, 289, 290, 291, 292, 293, 294, 295, 296, 297, 298, 299, 300, 301, 302, 303, 304, 305, 23, 306, 24, 307, 308, 309, 310, 311, 312, 313, 314, 315, 19, 20, 316, 317, 318, 319, 320, 321, 322, 323, 25, 26, 324, 325, 326, 327, 328, 329, 330, 331, 332, 333, 334, 335, 46, 336, 337, 338, 339, 340, 341, 342, 343, 344, 345, 346, 347, 348, 349, 350, 351, 491, 492, 493, 494, 33, 550, 551, 552, 553, 554, 555, 556, 557, 558, 559, 560, 561, 562, 563, 564, 586, 587, 588, 589] (by decide +kernel) (by decide +kernel)
set_option maxRecDepth 20000 in
theorem gL_law_X2_dance : GoodIn wsL_law (wsV RL 52 RX2 yX2_dance wsX2_dance) := goodIn_app (goodIn_of _ (by decide +kernel)) ggL_law_X2_dance
set_option maxRecDepth 20000 in
theorem ggL_law_X3_dance : GoodIn wsL_law wsX3_dance := goodIn_r _ [498, 120, 499, 59, 474, 58, 356, 357, 358, 5, 359, 121, 122, 123, 124, 51, 125, 126, 127, 360, 361, 362, 363, 364, 365, 366, 60, 52, 61, 53, 62, 54, 63, 55, 367, 368, 369, 370, 56, 57, 371, 372, 373, 374, 375, 376, 377, 378, 138, 139, 140, 141, 78, 79, 80, 81, 82, 379, 380, 381, 382, 383, 384, 385, 386, 387, 388, 389, 390, 391, 392, 393, 394, 395, 396, 397, 398, 399, 400, 401, 402, 403, 404, 405, 406, 407, 408, 409, 410, 411, 412, 413, 131, 132, 133, 134, 414, 415, 416, 73, 74, 75, 76, 77, 417, 418, 419, 420, 421, 422, 423, 424, 425, 426, 427, 428, 72, 429, 430, 431, 432, 433, 434, 435, 436, 437, 438, 439, 440, 441, 442, 443, 444, 445, 446, 447, 448, 449, 450, 451, 452, 453, 454, 455, 456, 457, 458, 69, 70, 71, 459, 460, 461, 565, 566, 567, 568, 569, 570, 571, 572, 573, 574, 575, 576, 577, 578, 579, 580, 581, 582, 583, 584, 585] (by decide +kernel) (by decide +kernel)
set_option maxRecDepth 20000 in
theorem gL_law_X3_dance : GoodIn wsL_law (wsV RL 55 RX3 yX3_dance wsX3_dance) := goodIn_app (goodIn_of _ (by decide +kernel)) ggL_law_X3_dance
set_option maxRecDepth 20000 in
theorem ggL_law_X2_danced : GoodIn wsL_law wsX2_danced := goodIn_r _ [503, 33, 550, 551, 552, 553, 554, 555, 556, 557, 558, 559, 560, 561, 562, 563, 564] (by decide +kernel) (by decide +kernel)
set_option maxRecDepth 20000 in
theorem gL_law_X2_danced : GoodIn wsL_law (wsV RL 56 RX2 yX2_danced wsX2_danced) := goodIn_app (goodIn_of _ (by decide +kernel)) ggL_law_X2_danced
set_option maxRecDepth 20000 in
theorem ggL_law_X3_danced : GoodIn wsL_law wsX3_danced := goodIn_r _ [507, 499, 59, 565, 566, 567, 568, 569, 570, 571, 572, 573, 574, 575, 576, 577, 578, 579, 580, 581, 582, 583, 584, 585] (by decide +kernel) (by decide +kernel)
set_option maxRecDepth 20000 in
theorem gL_law_X3_danced : GoodIn wsL_law (wsV RL 59 RX3 yX3_danced wsX3_danced) := goodIn_app (goodIn_of _ (by decide +kernel)) ggL_law_X3_danced
set_option maxRecDepth 20000 in
theorem ggL_law_X2_bar : GoodIn wsL_law wsX2_bar := goodIn_r _ [511, 23, 24, 25, 26, 550, 551, 552, 553, 554, 555, 556, 557, 558, 559, 560, 561, 562, 563, 564] (by decide +kernel) (by decide +kernel)
set_option maxRecDepth 20000 in
theorem gL_law_X2_bar : GoodIn wsL_law (wsV RL 60 RX2 yX2_bar wsX2_bar) := goodIn_app (goodIn_of _ (by decide +kernel)) ggL_law_X2_bar
set_option maxRecDepth 20000 in
theorem ggL_law_X3_bar : GoodIn wsL_law wsX3_bar := goodIn_r _ [515, 371, 372, 373, 374, 565, 566, 567, 568, 569, 570, 571, 572, 573, 574, 575, 576, 577, 578, 579, 580, 581, 582, 583, 584, 585] (by decide +kernel) (by decide +kernel)
set_option maxRecDepth 20000 in
theorem gL_law_X3_bar : GoodIn wsL_law (wsV RL 64 RX3 yX3_bar wsX3_bar) := goodIn_app (goodIn_of _ (by decide +kernel)) ggL_law_X3_bar
set_option maxRecDepth 20000 in
theorem ggL_law_X2_order : GoodIn wsL_law wsX2_order := goodIn_r _ [519, 520, 521, 522, 2, 523, 524, 525, 526, 527, 22, 528, 529, 530, 531, 14, 16, 17, 18, 532, 242, 105, 243, 107, 533, 534, 535, 536, 537, 248, 249, 111, 538, 539, 540, 541, 550, 551, 552, 553, 554, 555, 556, 557, 558, 559, 560, 561, 562, 563, 564] (by decide +kernel) (by decide +kernel)
set_option maxRecDepth 20000 in
theorem gL_law_X2_order : GoodIn wsL_law (wsV RL 65 RX2 yX2_order wsX2_order) := goodIn_app (goodIn_of _ (by decide +kernel)) ggL_law_X2_order
set_option maxRecDepth 20000 in
theorem ggL_law_X3_order : GoodIn wsL_law wsX3_order := goodIn_r _ [545, 546, 547, 548, 5, 549, 51, 52, 53, 54, 55, 390, 391, 392, 393, 397, 398, 399, 382, 565, 566, 567, 568, 569, 570, 571, 572, 573, 574, 575, 576, 577, 578, 579, 580, 581, 582, 583, 584, 585] (by decide +kernel) (by decide +kernel)
set_option maxRecDepth 20000 in
theorem gL_law_X3_order : GoodIn wsL_law (wsV RL 68 RX3 yX3_order wsX3_order) := goodIn_app (goodIn_of _ (by decide +kernel)) ggL_law_X3_order
theorem dL_law_0 : decode cL_law 0 = .ok (.new 7, 3) := by decide +kernel
theorem dL_law_3 : decode cL_law 3 = .ok (.dup, 1) := by decide +kernel
theorem dL_law_4 : decode cL_law 4 = .ok (.invokespecial 9, 3) := by decide +kernel
theorem dL_law_7 : decode cL_law 7 = .ok (.astore_n 1, 1) := by decide +kernel
theorem dL_law_8 : decode cL_law 8 = .ok (.new 10, 3) := by decide +kernel
theorem dL_law_11 : decode cL_law 11 = .ok (.dup, 1) := by decide +kernel
theorem dL_law_12 : decode cL_law 12 = .ok (.invokespecial 12, 3) := by decide +kernel
theorem dL_law_15 : decode cL_law 15 = .ok (.astore_n 2, 1) := by decide +kernel
theorem dL_law_16 : decode cL_law 16 = .ok (.iconst 0, 1) := by decide +kernel
theorem dL_law_17 : decode cL_law 17 = .ok (.istore_n 3, 1) := by decide +kernel
theorem dL_law_18 : decode cL_law 18 = .ok (.iload_n 3, 1) := by decide +kernel
theorem dL_law_19 : decode cL_law 19 = .ok (.aload_n 0, 1) := by decide +kernel
theorem dL_law_20 : decode cL_law 20 = .ok (.arraylength, 1) := by decide +kernel
theorem dL_law_21 : decode cL_law 21 = .ok (.iconst 5, 1) := by decide +kernel
theorem dL_law_22 : decode cL_law 22 = .ok (.isub, 1) := by decide +kernel
theorem dL_law_23 : decode cL_law 23 = .ok (.if_icmp .gt 437, 3) := by decide +kernel
theorem dL_law_26 : decode cL_law 26 = .ok (.aload_n 0, 1) := by decide +kernel
theorem dL_law_27 : decode cL_law 27 = .ok (.iload_n 3, 1) := by decide +kernel
theorem dL_law_28 : decode cL_law 28 = .ok (.iaload, 1) := by decide +kernel
theorem dL_law_29 : decode cL_law 29 = .ok (.bipush 15, 2) := by decide +kernel
theorem dL_law_31 : decode cL_law 31 = .ok (.iand, 1) := by decide +kernel
theorem dL_law_32 : decode cL_law 32 = .ok (.tableswitch 422 0 11 #[64, 137, 171, 184, 207, 230, 273, 316, 329, 352, 375, 399], 64) := by decide +kernel
theorem dL_law_96 : decode cL_law 96 = .ok (.aload_n 1, 1) := by decide +kernel
theorem dL_law_97 : decode cL_law 97 = .ok (.aload_n 0, 1) := by decide +kernel
theorem dL_law_98 : decode cL_law 98 = .ok (.iload_n 3, 1) := by decide +kernel
theorem dL_law_99 : decode cL_law 99 = .ok (.iconst 1, 1) := by decide +kernel
theorem dL_law_100 : decode cL_law 100 = .ok (.iadd, 1) := by decide +kernel
theorem dL_law_101 : decode cL_law 101 = .ok (.iaload, 1) := by decide +kernel
theorem dL_law_102 : decode cL_law 102 = .ok (.aload_n 0, 1) := by decide +kernel
theorem dL_law_103 : decode cL_law 103 = .ok (.iload_n 3, 1) := by decide +kernel
theorem dL_law_104 : decode cL_law 104 = .ok (.iconst 2, 1) := by decide +kernel
theorem dL_law_105 : decode cL_law 105 = .ok (.iadd, 1) := by decide +kernel
theorem dL_law_106 : decode cL_law 106 = .ok (.iaload, 1) := by decide +kernel
theorem dL_law_107 : decode cL_law 107 = .ok (.aload_n 0, 1) := by decide +kernel
theorem dL_law_108 : decode cL_law 108 = .ok (.iload_n 3, 1) := by decide +kernel
theorem dL_law_109 : decode cL_law 109 = .ok (.iconst 3, 1) := by decide +kernel
theorem dL_law_110 : decode cL_law 110 = .ok (.iadd, 1) := by decide +kernel
theorem dL_law_111 : decode cL_law 111 = .ok (.iaload, 1) := by decide +kernel
theorem dL_law_112 : decode cL_law 112 = .ok (.i2l, 1) := by decide +kernel
theorem dL_law_113 : decode cL_law 113 = .ok (.bipush 32, 2) := by decide +kernel
theorem dL_law_115 : decode cL_law 115 = .ok (.lshl, 1) := by decide +kernel
theorem dL_law_116 : decode cL_law 116 = .ok (.aload_n 0, 1) := by decide +kernel
theorem dL_law_117 : decode cL_law 117 = .ok (.iload_n 3, 1) := by decide +kernel
theorem dL_law_118 : decode cL_law 118 = .ok (.iconst 4, 1) := by decide +kernel
theorem dL_law_119 : decode cL_law 119 = .ok (.iadd, 1) := by decide +kernel
theorem dL_law_120 : decode cL_law 120 = .ok (.iaload, 1) := by decide +kernel
theorem dL_law_121 : decode cL_law 121 = .ok (.i2l, 1) := by decide +kernel
theorem dL_law_122 : decode cL_law 122 = .ok (.ldc2_w 13, 3) := by decide +kernel
theorem dL_law_125 : decode cL_law 125 = .ok (.land, 1) := by decide +kernel
theorem dL_law_126 : decode cL_law 126 = .ok (.lor, 1) := by decide +kernel
theorem dL_law_127 : decode cL_law 127 = .ok (.invokevirtual 15, 3) := by decide +kernel
theorem dL_law_130 : decode cL_law 130 = .ok (.aload_n 2, 1) := by decide +kernel
theorem dL_law_131 : decode cL_law 131 = .ok (.aload_n 0, 1) := by decide +kernel
theorem dL_law_132 : decode cL_law 132 = .ok (.iload_n 3, 1) := by decide +kernel
theorem dL_law_133 : decode cL_law 133 = .ok (.iconst 1, 1) := by decide +kernel
theorem dL_law_134 : decode cL_law 134 = .ok (.iadd, 1) := by decide +kernel
theorem dL_law_135 : decode cL_law 135 = .ok (.iaload, 1) := by decide +kernel
theorem dL_law_136 : decode cL_law 136 = .ok (.aload_n 0, 1) := by decide +kernel
theorem dL_law_137 : decode cL_law 137 = .ok (.iload_n 3, 1) := by decide +kernel
theorem dL_law_138 : decode cL_law 138 = .ok (.iconst 2, 1) := by decide +kernel
theorem dL_law_139 : decode cL_law 139 = .ok (.iadd, 1) := by decide +kernel
theorem dL_law_140 : decode cL_law 140 = .ok (.iaload, 1) := by decide +kernel
theorem dL_law_141 : decode cL_law 141 = .ok (.aload_n 0, 1) := by decide +kernel
theorem dL_law_142 : decode cL_law 142 = .ok (.iload_n 3, 1) := by decide +kernel
theorem dL_law_143 : decode cL_law 143 = .ok (.iconst 3, 1) := by decide +kernel
theorem dL_law_144 : decode cL_law 144 = .ok (.iadd, 1) := by decide +kernel
theorem dL_law_145 : decode cL_law 145 = .ok (.iaload, 1) := by decide +kernel
theorem dL_law_146 : decode cL_law 146 = .ok (.i2l, 1) := by decide +kernel
theorem dL_law_147 : decode cL_law 147 = .ok (.bipush 32, 2) := by decide +kernel
theorem dL_law_149 : decode cL_law 149 = .ok (.lshl, 1) := by decide +kernel
theorem dL_law_150 : decode cL_law 150 = .ok (.aload_n 0, 1) := by decide +kernel
theorem dL_law_151 : decode cL_law 151 = .ok (.iload_n 3, 1) := by decide +kernel
theorem dL_law_152 : decode cL_law 152 = .ok (.iconst 4, 1) := by decide +kernel
theorem dL_law_153 : decode cL_law 153 = .ok (.iadd, 1) := by decide +kernel
theorem dL_law_154 : decode cL_law 154 = .ok (.iaload, 1) := by decide +kernel
theorem dL_law_155 : decode cL_law 155 = .ok (.i2l, 1) := by decide +kernel
theorem dL_law_156 : decode cL_law 156 = .ok (.ldc2_w 13, 3) := by decide +kernel
theorem dL_law_159 : decode cL_law 159 = .ok (.land, 1) := by decide +kernel
theorem dL_law_160 : decode cL_law 160 = .ok (.lor, 1) := by decide +kernel
theorem dL_law_161 : decode cL_law 161 = .ok (.invokevirtual 19, 3) := by decide +kernel
theorem dL_law_164 : decode cL_law 164 = .ok (.if_icmp .eq 290, 3) := by decide +kernel
theorem dL_law_167 : decode cL_law 167 = .ok (.iconst 0, 1) := by decide +kernel
theorem dL_law_168 : decode cL_law 168 = .ok (.ireturn, 1) := by decide +kernel
theorem dL_law_169 : decode cL_law 169 = .ok (.aload_n 1, 1) := by decide +kernel
theorem dL_law_170 : decode cL_law 170 = .ok (.aload_n 0, 1) := by decide +kernel
theorem dL_law_171 : decode cL_law 171 = .ok (.iload_n 3, 1) := by decide +kernel
theorem dL_law_172 : decode cL_law 172 = .ok (.iconst 1, 1) := by decide +kernel
theorem dL_law_173 : decode cL_law 173 = .ok (.iadd, 1) := by decide +kernel
theorem dL_law_174 : decode cL_law 174 = .ok (.iaload, 1) := by decide +kernel
theorem dL_law_175 : decode cL_law 175 = .ok (.aload_n 0, 1) := by decide +kernel
theorem dL_law_176 : decode cL_law 176 = .ok (.iload_n 3, 1) := by decide +kernel
theorem dL_law_177 : decode cL_law 177 = .ok (.iconst 2, 1) := by decide +kernel
theorem dL_law_178 : decode cL_law 178 = .ok (.iadd, 1) := by decide +kernel
theorem dL_law_179 : decode cL_law 179 = .ok (.iaload, 1) := by decide +kernel
theorem dL_law_180 : decode cL_law 180 = .ok (.invokevirtual 20, 3) := by decide +kernel
theorem dL_law_183 : decode cL_law 183 = .ok (.aload_n 2, 1) := by decide +kernel
theorem dL_law_184 : decode cL_law 184 = .ok (.aload_n 0, 1) := by decide +kernel
theorem dL_law_185 : decode cL_law 185 = .ok (.iload_n 3, 1) := by decide +kernel
theorem dL_law_186 : decode cL_law 186 = .ok (.iconst 1, 1) := by decide +kernel
theorem dL_law_187 : decode cL_law 187 = .ok (.iadd, 1) := by decide +kernel
theorem dL_law_188 : decode cL_law 188 = .ok (.iaload, 1) := by decide +kernel
theorem dL_law_189 : decode cL_law 189 = .ok (.aload_n 0, 1) := by decide +kernel
theorem dL_law_190 : decode cL_law 190 = .ok (.iload_n 3, 1) := by decide +kernel
theorem dL_law_191 : decode cL_law 191 = .ok (.iconst 2, 1) := by decide +kernel
theorem dL_law_192 : decode cL_law 192 = .ok (.iadd, 1) := by decide +kernel
theorem dL_law_193 : decode cL_law 193 = .ok (.iaload, 1) := by decide +kernel
theorem dL_law_194 : decode cL_law 194 = .ok (.invokevirtual 24, 3) := by decide +kernel
theorem dL_law_197 : decode cL_law 197 = .ok (.lcmp, 1) := by decide +kernel
theorem dL_law_198 : decode cL_law 198 = .ok (.ifCond .eq 256, 3) := by decide +kernel
theorem dL_law_201 : decode cL_law 201 = .ok (.iconst 0, 1) := by decide +kernel
theorem dL_law_202 : decode cL_law 202 = .ok (.ireturn, 1) := by decide +kernel
theorem dL_law_203 : decode cL_law 203 = .ok (.aload_n 1, 1) := by decide +kernel
theorem dL_law_204 : decode cL_law 204 = .ok (.invokevirtual 25, 3) := by decide +kernel
theorem dL_law_207 : decode cL_law 207 = .ok (.aload_n 2, 1) := by decide +kernel
theorem dL_law_208 : decode cL_law 208 = .ok (.invokevirtual 29, 3) := by decide +kernel
theorem dL_law_211 : decode cL_law 211 = .ok (.if_icmp .eq 243, 3) := by decide +kernel
theorem dL_law_214 : decode cL_law 214 = .ok (.iconst 0, 1) := by decide +kernel
theorem dL_law_215 : decode cL_law 215 = .ok (.ireturn, 1) := by decide +kernel
theorem dL_law_216 : decode cL_law 216 = .ok (.aload_n 1, 1) := by decide +kernel
theorem dL_law_217 : decode cL_law 217 = .ok (.aload_n 0, 1) := by decide +kernel
theorem dL_law_218 : decode cL_law 218 = .ok (.iload_n 3, 1) := by decide +kernel
theorem dL_law_219 : decode cL_law 219 = .ok (.iconst 1, 1) := by decide +kernel
theorem dL_law_220 : decode cL_law 220 = .ok (.iadd, 1) := by decide +kernel
theorem dL_law_221 : decode cL_law 221 = .ok (.iaload, 1) := by decide +kernel
theorem dL_law_222 : decode cL_law 222 = .ok (.invokevirtual 30, 3) := by decide +kernel
theorem dL_law_225 : decode cL_law 225 = .ok (.aload_n 2, 1) := by decide +kernel
theorem dL_law_226 : decode cL_law 226 = .ok (.aload_n 0, 1) := by decide +kernel
theorem dL_law_227 : decode cL_law 227 = .ok (.iload_n 3, 1) := by decide +kernel
theorem dL_law_228 : decode cL_law 228 = .ok (.iconst 1, 1) := by decide +kernel
theorem dL_law_229 : decode cL_law 229 = .ok (.iadd, 1) := by decide +kernel
theorem dL_law_230 : decode cL_law 230 = .ok (.iaload, 1) := by decide +kernel
theorem dL_law_231 : decode cL_law 231 = .ok (.invokevirtual 34, 3) := by decide +kernel
theorem dL_law_234 : decode cL_law 234 = .ok (.if_icmp .eq 220, 3) := by decide +kernel
theorem dL_law_237 : decode cL_law 237 = .ok (.iconst 0, 1) := by decide +kernel
theorem dL_law_238 : decode cL_law 238 = .ok (.ireturn, 1) := by decide +kernel
theorem dL_law_239 : decode cL_law 239 = .ok (.aload_n 1, 1) := by decide +kernel
theorem dL_law_240 : decode cL_law 240 = .ok (.aload_n 0, 1) := by decide +kernel
theorem dL_law_241 : decode cL_law 241 = .ok (.iload_n 3, 1) := by decide +kernel
theorem dL_law_242 : decode cL_law 242 = .ok (.iconst 1, 1) := by decide +kernel
theorem dL_law_243 : decode cL_law 243 = .ok (.iadd, 1) := by decide +kernel
theorem dL_law_244 : decode cL_law 244 = .ok (.iaload, 1) := by decide +kernel
theorem dL_law_245 : decode cL_law 245 = .ok (.invokevirtual 35, 3) := by decide +kernel
theorem dL_law_248 : decode cL_law 248 = .ok (.aload_n 2, 1) := by decide +kernel
theorem dL_law_249 : decode cL_law 249 = .ok (.aload_n 0, 1) := by decide +kernel
theorem dL_law_250 : decode cL_law 250 = .ok (.iload_n 3, 1) := by decide +kernel
theorem dL_law_251 : decode cL_law 251 = .ok (.iconst 1, 1) := by decide +kernel
theorem dL_law_252 : decode cL_law 252 = .ok (.iadd, 1) := by decide +kernel
theorem dL_law_253 : decode cL_law 253 = .ok (.iaload, 1) := by decide +kernel
theorem dL_law_254 : decode cL_law 254 = .ok (.invokevirtual 38, 3) := by decide +kernel
theorem dL_law_257 : decode cL_law 257 = .ok (.if_icmp .eq 197, 3) := by decide +kernel
theorem dL_law_260 : decode cL_law 260 = .ok (.iconst 0, 1) := by decide +kernel
theorem dL_law_261 : decode cL_law 261 = .ok (.ireturn, 1) := by decide +kernel
theorem dL_law_262 : decode cL_law 262 = .ok (.aload_n 1, 1) := by decide +kernel
theorem dL_law_263 : decode cL_law 263 = .ok (.aload_n 0, 1) := by decide +kernel
theorem dL_law_264 : decode cL_law 264 = .ok (.iload_n 3, 1) := by decide +kernel
theorem dL_law_265 : decode cL_law 265 = .ok (.iconst 1, 1) := by decide +kernel
theorem dL_law_266 : decode cL_law 266 = .ok (.iadd, 1) := by decide +kernel
theorem dL_law_267 : decode cL_law 267 = .ok (.iaload, 1) := by decide +kernel
theorem dL_law_268 : decode cL_law 268 = .ok (.aload_n 0, 1) := by decide +kernel
theorem dL_law_269 : decode cL_law 269 = .ok (.iload_n 3, 1) := by decide +kernel
theorem dL_law_270 : decode cL_law 270 = .ok (.iconst 2, 1) := by decide +kernel
theorem dL_law_271 : decode cL_law 271 = .ok (.iadd, 1) := by decide +kernel
theorem dL_law_272 : decode cL_law 272 = .ok (.iaload, 1) := by decide +kernel
theorem dL_law_273 : decode cL_law 273 = .ok (.aload_n 0, 1) := by decide +kernel
theorem dL_law_274 : decode cL_law 274 = .ok (.iload_n 3, 1) := by decide +kernel
theorem dL_law_275 : decode cL_law 275 = .ok (.iconst 3, 1) := by decide +kernel
theorem dL_law_276 : decode cL_law 276 = .ok (.iadd, 1) := by decide +kernel
theorem dL_law_277 : decode cL_law 277 = .ok (.iaload, 1) := by decide +kernel
theorem dL_law_278 : decode cL_law 278 = .ok (.invokevirtual 39, 3) := by decide +kernel
theorem dL_law_281 : decode cL_law 281 = .ok (.aload_n 2, 1) := by decide +kernel
theorem dL_law_282 : decode cL_law 282 = .ok (.aload_n 0, 1) := by decide +kernel
theorem dL_law_283 : decode cL_law 283 = .ok (.iload_n 3, 1) := by decide +kernel
theorem dL_law_284 : decode cL_law 284 = .ok (.iconst 1, 1) := by decide +kernel
theorem dL_law_285 : decode cL_law 285 = .ok (.iadd, 1) := by decide +kernel
theorem dL_law_286 : decode cL_law 286 = .ok (.iaload, 1) := by decide +kernel
theorem dL_law_287 : decode cL_law 287 = .ok (.aload_n 0, 1) := by decide +kernel
theorem dL_law_288 : decode cL_law 288 = .ok (.iload_n 3, 1) := by decide +kernel
theorem dL_law_289 : decode cL_law 289 = .ok (.iconst 2, 1) := by decide +kernel
theorem dL_law_290 : decode cL_law 290 = .ok (.iadd, 1) := by decide +kernel
theorem dL_law_291 : decode cL_law 291 = .ok (.iaload, 1) := by decide +kernel
theorem dL_law_292 : decode cL_law 292 = .ok (.aload_n 0, 1) := by decide +kernel
theorem dL_law_293 : decode cL_law 293 = .ok (.iload_n 3, 1) := by decide +kernel
theorem dL_law_294 : decode cL_law 294 = .ok (.iconst 3, 1) := by decide +kernel
theorem dL_law_295 : decode cL_law 295 = .ok (.iadd, 1) := by decide +kernel
theorem dL_law_296 : decode cL_law 296 = .ok (.iaload, 1) := by decide +kernel
theorem dL_law_297 : decode cL_law 297 = .ok (.invokevirtual 43, 3) := by decide +kernel
theorem dL_law_300 : decode cL_law 300 = .ok (.if_icmp .eq 154, 3) := by decide +kernel
theorem dL_law_303 : decode cL_law 303 = .ok (.iconst 0, 1) := by decide +kernel
theorem dL_law_304 : decode cL_law 304 = .ok (.ireturn, 1) := by decide +kernel
theorem dL_law_305 : decode cL_law 305 = .ok (.aload_n 1, 1) := by decide +kernel
theorem dL_law_306 : decode cL_law 306 = .ok (.aload_n 0, 1) := by decide +kernel
theorem dL_law_307 : decode cL_law 307 = .ok (.iload_n 3, 1) := by decide +kernel
theorem dL_law_308 : decode cL_law 308 = .ok (.iconst 1, 1) := by decide +kernel
theorem dL_law_309 : decode cL_law 309 = .ok (.iadd, 1) := by decide +kernel
theorem dL_law_310 : decode cL_law 310 = .ok (.iaload, 1) := by decide +kernel
theorem dL_law_311 : decode cL_law 311 = .ok (.aload_n 0, 1) := by decide +kernel
theorem dL_law_312 : decode cL_law 312 = .ok (.iload_n 3, 1) := by decide +kernel
theorem dL_law_313 : decode cL_law 313 = .ok (.iconst 2, 1) := by decide +kernel
theorem dL_law_314 : decode cL_law 314 = .ok (.iadd, 1) := by decide +kernel
theorem dL_law_315 : decode cL_law 315 = .ok (.iaload, 1) := by decide +kernel
theorem dL_law_316 : decode cL_law 316 = .ok (.aload_n 0, 1) := by decide +kernel
theorem dL_law_317 : decode cL_law 317 = .ok (.iload_n 3, 1) := by decide +kernel
theorem dL_law_318 : decode cL_law 318 = .ok (.iconst 3, 1) := by decide +kernel
theorem dL_law_319 : decode cL_law 319 = .ok (.iadd, 1) := by decide +kernel
theorem dL_law_320 : decode cL_law 320 = .ok (.iaload, 1) := by decide +kernel
theorem dL_law_321 : decode cL_law 321 = .ok (.invokevirtual 44, 3) := by decide +kernel
theorem dL_law_324 : decode cL_law 324 = .ok (.aload_n 2, 1) := by decide +kernel
theorem dL_law_325 : decode cL_law 325 = .ok (.aload_n 0, 1) := by decide +kernel
theorem dL_law_326 : decode cL_law 326 = .ok (.iload_n 3, 1) := by decide +kernel
theorem dL_law_327 : decode cL_law 327 = .ok (.iconst 1, 1) := by decide +kernel
theorem dL_law_328 : decode cL_law 328 = .ok (.iadd, 1) := by decide +kernel
theorem dL_law_329 : decode cL_law 329 = .ok (.iaload, 1) := by decide +kernel
theorem dL_law_330 : decode cL_law 330 = .ok (.aload_n 0, 1) := by decide +kernel
theorem dL_law_331 : decode cL_law 331 = .ok (.iload_n 3, 1) := by decide +kernel
theorem dL_law_332 : decode cL_law 332 = .ok (.iconst 2, 1) := by decide +kernel
theorem dL_law_333 : decode cL_law 333 = .ok (.iadd, 1) := by decide +kernel
theorem dL_law_334 : decode cL_law 334 = .ok (.iaload, 1) := by decide +kernel
theorem dL_law_335 : decode cL_law 335 = .ok (.aload_n 0, 1) := by decide +kernel
theorem dL_law_336 : decode cL_law 336 = .ok (.iload_n 3, 1) := by decide +kernel
theorem dL_law_337 : decode cL_law 337 = .ok (.iconst 3, 1) := by decide +kernel
theorem dL_law_338 : decode cL_law 338 = .ok (.iadd, 1) := by decide +kernel
theorem dL_law_339 : decode cL_law 339 = .ok (.iaload, 1) := by decide +kernel
theorem dL_law_340 : decode cL_law 340 = .ok (.invokevirtual 47, 3) := by decide +kernel
theorem dL_law_343 : decode cL_law 343 = .ok (.if_icmp .eq 111, 3) := by decide +kernel
theorem dL_law_346 : decode cL_law 346 = .ok (.iconst 0, 1) := by decide +kernel
theorem dL_law_347 : decode cL_law 347 = .ok (.ireturn, 1) := by decide +kernel
theorem dL_law_348 : decode cL_law 348 = .ok (.aload_n 1, 1) := by decide +kernel
theorem dL_law_349 : decode cL_law 349 = .ok (.invokevirtual 48, 3) := by decide +kernel
theorem dL_law_352 : decode cL_law 352 = .ok (.aload_n 2, 1) := by decide +kernel
theorem dL_law_353 : decode cL_law 353 = .ok (.invokevirtual 51, 3) := by decide +kernel
theorem dL_law_356 : decode cL_law 356 = .ok (.if_icmp .eq 98, 3) := by decide +kernel
theorem dL_law_359 : decode cL_law 359 = .ok (.iconst 0, 1) := by decide +kernel
theorem dL_law_360 : decode cL_law 360 = .ok (.ireturn, 1) := by decide +kernel
theorem dL_law_361 : decode cL_law 361 = .ok (.aload_n 1, 1) := by decide +kernel
theorem dL_law_362 : decode cL_law 362 = .ok (.aload_n 0, 1) := by decide +kernel
theorem dL_law_363 : decode cL_law 363 = .ok (.iload_n 3, 1) := by decide +kernel
theorem dL_law_364 : decode cL_law 364 = .ok (.iconst 1, 1) := by decide +kernel
theorem dL_law_365 : decode cL_law 365 = .ok (.iadd, 1) := by decide +kernel
theorem dL_law_366 : decode cL_law 366 = .ok (.iaload, 1) := by decide +kernel
theorem dL_law_367 : decode cL_law 367 = .ok (.invokevirtual 52, 3) := by decide +kernel
theorem dL_law_370 : decode cL_law 370 = .ok (.aload_n 2, 1) := by decide +kernel
theorem dL_law_371 : decode cL_law 371 = .ok (.aload_n 0, 1) := by decide +kernel
theorem dL_law_372 : decode cL_law 372 = .ok (.iload_n 3, 1) := by decide +kernel
theorem dL_law_373 : decode cL_law 373 = .ok (.iconst 1, 1) := by decide +kernel
theorem dL_law_374 : decode cL_law 374 = .ok (.iadd, 1) := by decide +kernel
theorem dL_law_375 : decode cL_law 375 = .ok (.iaload, 1) := by decide +kernel
theorem dL_law_376 : decode cL_law 376 = .ok (.invokevirtual 55, 3) := by decide +kernel
theorem dL_law_379 : decode cL_law 379 = .ok (.if_icmp .eq 75, 3) := by decide +kernel
theorem dL_law_382 : decode cL_law 382 = .ok (.iconst 0, 1) := by decide +kernel
theorem dL_law_383 : decode cL_law 383 = .ok (.ireturn, 1) := by decide +kernel
theorem dL_law_384 : decode cL_law 384 = .ok (.aload_n 1, 1) := by decide +kernel
theorem dL_law_385 : decode cL_law 385 = .ok (.aload_n 0, 1) := by decide +kernel
theorem dL_law_386 : decode cL_law 386 = .ok (.iload_n 3, 1) := by decide +kernel
theorem dL_law_387 : decode cL_law 387 = .ok (.iconst 1, 1) := by decide +kernel
theorem dL_law_388 : decode cL_law 388 = .ok (.iadd, 1) := by decide +kernel
theorem dL_law_389 : decode cL_law 389 = .ok (.iaload, 1) := by decide +kernel
theorem dL_law_390 : decode cL_law 390 = .ok (.invokevirtual 56, 3) := by decide +kernel
theorem dL_law_393 : decode cL_law 393 = .ok (.aload_n 2, 1) := by decide +kernel
theorem dL_law_394 : decode cL_law 394 = .ok (.aload_n 0, 1) := by decide +kernel
theorem dL_law_395 : decode cL_law 395 = .ok (.iload_n 3, 1) := by decide +kernel
theorem dL_law_396 : decode cL_law 396 = .ok (.iconst 1, 1) := by decide +kernel
theorem dL_law_397 : decode cL_law 397 = .ok (.iadd, 1) := by decide +kernel
theorem dL_law_398 : decode cL_law 398 = .ok (.iaload, 1) := by decide +kernel
theorem dL_law_399 : decode cL_law 399 = .ok (.invokevirtual 59, 3) := by decide +kernel
theorem dL_law_402 : decode cL_law 402 = .ok (.if_icmp .eq 52, 3) := by decide +kernel
theorem dL_law_405 : decode cL_law 405 = .ok (.iconst 0, 1) := by decide +kernel
theorem dL_law_406 : decode cL_law 406 = .ok (.ireturn, 1) := by decide +kernel
theorem dL_law_407 : decode cL_law 407 = .ok (.aload_n 1, 1) := by decide +kernel
theorem dL_law_408 : decode cL_law 408 = .ok (.aload_n 0, 1) := by decide +kernel
theorem dL_law_409 : decode cL_law 409 = .ok (.iload_n 3, 1) := by decide +kernel
theorem dL_law_410 : decode cL_law 410 = .ok (.iconst 1, 1) := by decide +kernel
theorem dL_law_411 : decode cL_law 411 = .ok (.iadd, 1) := by decide +kernel
theorem dL_law_412 : decode cL_law 412 = .ok (.iaload, 1) := by decide +kernel
theorem dL_law_413 : decode cL_law 413 = .ok (.invokevirtual 60, 3) := by decide +kernel
theorem dL_law_416 : decode cL_law 416 = .ok (.aload_n 2, 1) := by decide +kernel
theorem dL_law_417 : decode cL_law 417 = .ok (.aload_n 0, 1) := by decide +kernel
theorem dL_law_418 : decode cL_law 418 = .ok (.iload_n 3, 1) := by decide +kernel
theorem dL_law_419 : decode cL_law 419 = .ok (.iconst 1, 1) := by decide +kernel
theorem dL_law_420 : decode cL_law 420 = .ok (.iadd, 1) := by decide +kernel
theorem dL_law_421 : decode cL_law 421 = .ok (.iaload, 1) := by decide +kernel
theorem dL_law_422 : decode cL_law 422 = .ok (.invokevirtual 64, 3) := by decide +kernel
theorem dL_law_425 : decode cL_law 425 = .ok (.lcmp, 1) := by decide +kernel
theorem dL_law_426 : decode cL_law 426 = .ok (.ifCond .eq 28, 3) := by decide +kernel
theorem dL_law_429 : decode cL_law 429 = .ok (.iconst 0, 1) := by decide +kernel
theorem dL_law_430 : decode cL_law 430 = .ok (.ireturn, 1) := by decide +kernel
theorem dL_law_431 : decode cL_law 431 = .ok (.aload_n 1, 1) := by decide +kernel
theorem dL_law_432 : decode cL_law 432 = .ok (.aload_n 0, 1) := by decide +kernel
theorem dL_law_433 : decode cL_law 433 = .ok (.iload_n 3, 1) := by decide +kernel
theorem dL_law_434 : decode cL_law 434 = .ok (.iconst 1, 1) := by decide +kernel
theorem dL_law_435 : decode cL_law 435 = .ok (.iadd, 1) := by decide +kernel
theorem dL_law_436 : decode cL_law 436 = .ok (.iaload, 1) := by decide +kernel
theorem dL_law_437 : decode cL_law 437 = .ok (.invokevirtual 65, 3) := by decide +kernel
theorem dL_law_440 : decode cL_law 440 = .ok (.aload_n 2, 1) := by decide +kernel
theorem dL_law_441 : decode cL_law 441 = .ok (.aload_n 0, 1) := by decide +kernel
theorem dL_law_442 : decode cL_law 442 = .ok (.iload_n 3, 1) := by decide +kernel
theorem dL_law_443 : decode cL_law 443 = .ok (.iconst 1, 1) := by decide +kernel
theorem dL_law_444 : decode cL_law 444 = .ok (.iadd, 1) := by decide +kernel
theorem dL_law_445 : decode cL_law 445 = .ok (.iaload, 1) := by decide +kernel
theorem dL_law_446 : decode cL_law 446 = .ok (.invokevirtual 68, 3) := by decide +kernel
theorem dL_law_449 : decode cL_law 449 = .ok (.if_icmp .eq 5, 3) := by decide +kernel
theorem dL_law_452 : decode cL_law 452 = .ok (.iconst 0, 1) := by decide +kernel
theorem dL_law_453 : decode cL_law 453 = .ok (.ireturn, 1) := by decide +kernel
theorem dL_law_454 : decode cL_law 454 = .ok (.iinc 3 5, 3) := by decide +kernel
theorem dL_law_457 : decode cL_law 457 = .ok (.goto (-439), 3) := by decide +kernel
theorem dL_law_460 : decode cL_law 460 = .ok (.iconst 1, 1) := by decide +kernel
theorem dL_law_461 : decode cL_law 461 = .ok (.ireturn, 1) := by decide +kernel
abbrev vwCl : List vw_C := [(RX0, TX0, 4), (RX2, TX2, 15), (RX3, TX3, 21)]
