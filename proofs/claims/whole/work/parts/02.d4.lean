theorem dX3_forget_4 : decode cX3_forget 4 = .ok (.istore_n 1, 1) := by decide +kernel
theorem dX3_forget_5 : decode cX3_forget 5 = .ok (.aload_n 0, 1) := by decide +kernel
theorem dX3_forget_6 : decode cX3_forget 6 = .ok (.iconst 0, 1) := by decide +kernel
theorem dX3_forget_7 : decode cX3_forget 7 = .ok (.putfield 221, 3) := by decide +kernel
theorem dX3_forget_10 : decode cX3_forget 10 = .ok (.iload_n 1, 1) := by decide +kernel
theorem dX3_forget_11 : decode cX3_forget 11 = .ok (.ireturn, 1) := by decide +kernel
set_option maxRecDepth 20000 in
theorem ggX3_dance_X3_lackOf : GoodIn wsX3_dance wsX3_lackOf := goodIn_r _ [10, 11, 12, 13, 9, 14, 15, 16, 17, 18, 19, 20, 21, 153, 154, 155, 156, 157, 158, 159, 160, 161, 162, 163, 164, 165, 166, 167, 168, 169, 170, 171, 172, 173] (by decide +kernel) (by decide +kernel)
set_option maxRecDepth 20000 in
theorem gX3_dance_X3_lackOf : GoodIn wsX3_dance (wsV RX3 213 RX3 yX3_lackOf wsX3_lackOf) := goodIn_app (goodIn_of _ (by decide +kernel)) ggX3_dance_X3_lackOf
set_option maxRecDepth 20000 in
theorem ggX3_dance_X3_moved : GoodIn wsX3_dance wsX3_moved := goodIn_r _ [25, 26, 27, 28, 29, 30, 31, 32, 33, 34, 35, 36, 9, 37, 38, 39, 40, 41, 42, 43, 44, 45, 46, 47, 48, 49, 50, 51, 52, 53, 54, 55, 56, 57, 58, 59, 60, 61, 62, 63, 64, 65, 66, 67, 68, 69, 70, 71, 72, 73, 74, 75, 76, 77, 78, 79, 80, 81, 82, 83, 84, 85, 86, 87, 88, 89, 90, 91, 92, 93, 94, 95, 96, 97, 98, 99, 100, 101, 102, 103, 104, 105, 106, 107, 108, 109, 110, 111, 112, 113, 114, 115, 116, 117, 118, 119, 120, 121, 122, 123, 124, 125, 126, 127, 128, 129, 130, 131, 132, 133, 134, 135, 136, 137, 138, 139, 140, 141, 142, 143, 144, 145, 146, 147, 148, 149, 150, 151, 152, 153, 154, 155, 156, 157, 158, 159, 160, 161, 162, 163, 164, 165, 166, 167, 168, 169, 170, 171, 172, 173] (by decide +kernel) (by decide +kernel)
set_option maxRecDepth 20000 in
theorem gX3_dance_X3_moved : GoodIn wsX3_dance (wsV RX3 217 RX3 yX3_moved wsX3_moved) := goodIn_app (goodIn_of _ (by decide +kernel)) ggX3_dance_X3_moved
theorem dX3_dance_0 : decode cX3_dance 0 = .ok (.aload_n 0, 1) := by decide +kernel
theorem dX3_dance_1 : decode cX3_dance 1 = .ok (.iconst 0, 1) := by decide +kernel
theorem dX3_dance_2 : decode cX3_dance 2 = .ok (.putfield 114, 3) := by decide +kernel
theorem dX3_dance_5 : decode cX3_dance 5 = .ok (.iload_n 1, 1) := by decide +kernel
theorem dX3_dance_6 : decode cX3_dance 6 = .ok (.ifCond .lt 9, 3) := by decide +kernel
theorem dX3_dance_9 : decode cX3_dance 9 = .ok (.iload_n 1, 1) := by decide +kernel
theorem dX3_dance_10 : decode cX3_dance 10 = .ok (.bipush 50, 2) := by decide +kernel
theorem dX3_dance_12 : decode cX3_dance 12 = .ok (.if_icmp .le 5, 3) := by decide +kernel
theorem dX3_dance_15 : decode cX3_dance 15 = .ok (.iconst (-1), 1) := by decide +kernel
theorem dX3_dance_16 : decode cX3_dance 16 = .ok (.ireturn, 1) := by decide +kernel
theorem dX3_dance_17 : decode cX3_dance 17 = .ok (.aload_n 0, 1) := by decide +kernel
theorem dX3_dance_18 : decode cX3_dance 18 = .ok (.iconst (-1), 1) := by decide +kernel
theorem dX3_dance_19 : decode cX3_dance 19 = .ok (.putfield 224, 3) := by decide +kernel
theorem dX3_dance_22 : decode cX3_dance 22 = .ok (.iconst 0, 1) := by decide +kernel
theorem dX3_dance_23 : decode cX3_dance 23 = .ok (.istore_n 2, 1) := by decide +kernel
theorem dX3_dance_24 : decode cX3_dance 24 = .ok (.iload_n 2, 1) := by decide +kernel
theorem dX3_dance_25 : decode cX3_dance 25 = .ok (.iconst 4, 1) := by decide +kernel
theorem dX3_dance_26 : decode cX3_dance 26 = .ok (.if_icmp .ge 16, 3) := by decide +kernel
theorem dX3_dance_29 : decode cX3_dance 29 = .ok (.aload_n 0, 1) := by decide +kernel
theorem dX3_dance_30 : decode cX3_dance 30 = .ok (.getfield 36, 3) := by decide +kernel
theorem dX3_dance_33 : decode cX3_dance 33 = .ok (.iload_n 2, 1) := by decide +kernel
theorem dX3_dance_34 : decode cX3_dance 34 = .ok (.iconst 0, 1) := by decide +kernel
theorem dX3_dance_35 : decode cX3_dance 35 = .ok (.iastore, 1) := by decide +kernel
theorem dX3_dance_36 : decode cX3_dance 36 = .ok (.iinc 2 1, 3) := by decide +kernel
theorem dX3_dance_39 : decode cX3_dance 39 = .ok (.goto (-15), 3) := by decide +kernel
theorem dX3_dance_42 : decode cX3_dance 42 = .ok (.iconst 0, 1) := by decide +kernel
theorem dX3_dance_43 : decode cX3_dance 43 = .ok (.istore_n 2, 1) := by decide +kernel
theorem dX3_dance_44 : decode cX3_dance 44 = .ok (.iconst 0, 1) := by decide +kernel
theorem dX3_dance_45 : decode cX3_dance 45 = .ok (.istore_n 3, 1) := by decide +kernel
theorem dX3_dance_46 : decode cX3_dance 46 = .ok (.iload_n 3, 1) := by decide +kernel
theorem dX3_dance_47 : decode cX3_dance 47 = .ok (.iload_n 1, 1) := by decide +kernel
theorem dX3_dance_48 : decode cX3_dance 48 = .ok (.aload_n 0, 1) := by decide +kernel
theorem dX3_dance_49 : decode cX3_dance 49 = .ok (.getfield 221, 3) := by decide +kernel
theorem dX3_dance_52 : decode cX3_dance 52 = .ok (.imul, 1) := by decide +kernel
theorem dX3_dance_53 : decode cX3_dance 53 = .ok (.if_icmp .ge 115, 3) := by decide +kernel
theorem dX3_dance_56 : decode cX3_dance 56 = .ok (.iload_n 3, 1) := by decide +kernel
theorem dX3_dance_57 : decode cX3_dance 57 = .ok (.aload_n 0, 1) := by decide +kernel
theorem dX3_dance_58 : decode cX3_dance 58 = .ok (.getfield 221, 3) := by decide +kernel
theorem dX3_dance_61 : decode cX3_dance 61 = .ok (.irem, 1) := by decide +kernel
theorem dX3_dance_62 : decode cX3_dance 62 = .ok (.istore 4, 2) := by decide +kernel
theorem dX3_dance_64 : decode cX3_dance 64 = .ok (.aload_n 0, 1) := by decide +kernel
theorem dX3_dance_65 : decode cX3_dance 65 = .ok (.aload_n 0, 1) := by decide +kernel
theorem dX3_dance_66 : decode cX3_dance 66 = .ok (.aload_n 0, 1) := by decide +kernel
theorem dX3_dance_67 : decode cX3_dance 67 = .ok (.getfield 33, 3) := by decide +kernel
theorem dX3_dance_70 : decode cX3_dance 70 = .ok (.iconst 3, 1) := by decide +kernel
theorem dX3_dance_71 : decode cX3_dance 71 = .ok (.iload 4, 2) := by decide +kernel
theorem dX3_dance_73 : decode cX3_dance 73 = .ok (.imul, 1) := by decide +kernel
theorem dX3_dance_74 : decode cX3_dance 74 = .ok (.iaload, 1) := by decide +kernel
theorem dX3_dance_75 : decode cX3_dance 75 = .ok (.aload_n 0, 1) := by decide +kernel
theorem dX3_dance_76 : decode cX3_dance 76 = .ok (.getfield 33, 3) := by decide +kernel
theorem dX3_dance_79 : decode cX3_dance 79 = .ok (.iconst 3, 1) := by decide +kernel
theorem dX3_dance_80 : decode cX3_dance 80 = .ok (.iload 4, 2) := by decide +kernel
theorem dX3_dance_82 : decode cX3_dance 82 = .ok (.imul, 1) := by decide +kernel
theorem dX3_dance_83 : decode cX3_dance 83 = .ok (.iconst 1, 1) := by decide +kernel
theorem dX3_dance_84 : decode cX3_dance 84 = .ok (.iadd, 1) := by decide +kernel
theorem dX3_dance_85 : decode cX3_dance 85 = .ok (.iaload, 1) := by decide +kernel
theorem dX3_dance_86 : decode cX3_dance 86 = .ok (.aload_n 0, 1) := by decide +kernel
theorem dX3_dance_87 : decode cX3_dance 87 = .ok (.getfield 33, 3) := by decide +kernel
theorem dX3_dance_90 : decode cX3_dance 90 = .ok (.iconst 3, 1) := by decide +kernel
theorem dX3_dance_91 : decode cX3_dance 91 = .ok (.iload 4, 2) := by decide +kernel
theorem dX3_dance_93 : decode cX3_dance 93 = .ok (.imul, 1) := by decide +kernel
theorem dX3_dance_94 : decode cX3_dance 94 = .ok (.iconst 2, 1) := by decide +kernel
theorem dX3_dance_95 : decode cX3_dance 95 = .ok (.iadd, 1) := by decide +kernel
theorem dX3_dance_96 : decode cX3_dance 96 = .ok (.iaload, 1) := by decide +kernel
theorem dX3_dance_97 : decode cX3_dance 97 = .ok (.invokevirtual 213, 3) := by decide +kernel
theorem dX3_dance_100 : decode cX3_dance 100 = .ok (.putfield 114, 3) := by decide +kernel
theorem dX3_dance_103 : decode cX3_dance 103 = .ok (.aload_n 0, 1) := by decide +kernel
theorem dX3_dance_104 : decode cX3_dance 104 = .ok (.getfield 114, 3) := by decide +kernel
theorem dX3_dance_107 : decode cX3_dance 107 = .ok (.ifCond .le 11, 3) := by decide +kernel
theorem dX3_dance_110 : decode cX3_dance 110 = .ok (.aload_n 0, 1) := by decide +kernel
theorem dX3_dance_111 : decode cX3_dance 111 = .ok (.iload 4, 2) := by decide +kernel
theorem dX3_dance_113 : decode cX3_dance 113 = .ok (.putfield 224, 3) := by decide +kernel
theorem dX3_dance_116 : decode cX3_dance 116 = .ok (.iload_n 2, 1) := by decide +kernel
theorem dX3_dance_117 : decode cX3_dance 117 = .ok (.ireturn, 1) := by decide +kernel
theorem dX3_dance_118 : decode cX3_dance 118 = .ok (.aload_n 0, 1) := by decide +kernel
theorem dX3_dance_119 : decode cX3_dance 119 = .ok (.aload_n 0, 1) := by decide +kernel
theorem dX3_dance_120 : decode cX3_dance 120 = .ok (.getfield 33, 3) := by decide +kernel
theorem dX3_dance_123 : decode cX3_dance 123 = .ok (.iconst 3, 1) := by decide +kernel
theorem dX3_dance_124 : decode cX3_dance 124 = .ok (.iload 4, 2) := by decide +kernel
theorem dX3_dance_126 : decode cX3_dance 126 = .ok (.imul, 1) := by decide +kernel
theorem dX3_dance_127 : decode cX3_dance 127 = .ok (.iaload, 1) := by decide +kernel
theorem dX3_dance_128 : decode cX3_dance 128 = .ok (.aload_n 0, 1) := by decide +kernel
theorem dX3_dance_129 : decode cX3_dance 129 = .ok (.getfield 33, 3) := by decide +kernel
theorem dX3_dance_132 : decode cX3_dance 132 = .ok (.iconst 3, 1) := by decide +kernel
theorem dX3_dance_133 : decode cX3_dance 133 = .ok (.iload 4, 2) := by decide +kernel
theorem dX3_dance_135 : decode cX3_dance 135 = .ok (.imul, 1) := by decide +kernel
theorem dX3_dance_136 : decode cX3_dance 136 = .ok (.iconst 1, 1) := by decide +kernel
theorem dX3_dance_137 : decode cX3_dance 137 = .ok (.iadd, 1) := by decide +kernel
theorem dX3_dance_138 : decode cX3_dance 138 = .ok (.iaload, 1) := by decide +kernel
theorem dX3_dance_139 : decode cX3_dance 139 = .ok (.aload_n 0, 1) := by decide +kernel
theorem dX3_dance_140 : decode cX3_dance 140 = .ok (.getfield 33, 3) := by decide +kernel
theorem dX3_dance_143 : decode cX3_dance 143 = .ok (.iconst 3, 1) := by decide +kernel
theorem dX3_dance_144 : decode cX3_dance 144 = .ok (.iload 4, 2) := by decide +kernel
theorem dX3_dance_146 : decode cX3_dance 146 = .ok (.imul, 1) := by decide +kernel
theorem dX3_dance_147 : decode cX3_dance 147 = .ok (.iconst 2, 1) := by decide +kernel
theorem dX3_dance_148 : decode cX3_dance 148 = .ok (.iadd, 1) := by decide +kernel
theorem dX3_dance_149 : decode cX3_dance 149 = .ok (.iaload, 1) := by decide +kernel
theorem dX3_dance_150 : decode cX3_dance 150 = .ok (.aload_n 0, 1) := by decide +kernel
theorem dX3_dance_151 : decode cX3_dance 151 = .ok (.getfield 36, 3) := by decide +kernel
theorem dX3_dance_154 : decode cX3_dance 154 = .ok (.invokevirtual 217, 3) := by decide +kernel
theorem dX3_dance_157 : decode cX3_dance 157 = .ok (.istore 5, 2) := by decide +kernel
theorem dX3_dance_159 : decode cX3_dance 159 = .ok (.iinc 2 1, 3) := by decide +kernel
theorem dX3_dance_162 : decode cX3_dance 162 = .ok (.iinc 3 1, 3) := by decide +kernel
theorem dX3_dance_165 : decode cX3_dance 165 = .ok (.goto (-119), 3) := by decide +kernel
theorem dX3_dance_168 : decode cX3_dance 168 = .ok (.iload_n 2, 1) := by decide +kernel
theorem dX3_dance_169 : decode cX3_dance 169 = .ok (.ireturn, 1) := by decide +kernel
theorem dX3_danced_0 : decode cX3_danced 0 = .ok (.iload_n 1, 1) := by decide +kernel
theorem dX3_danced_1 : decode cX3_danced 1 = .ok (.ifCond .lt 8, 3) := by decide +kernel
theorem dX3_danced_4 : decode cX3_danced 4 = .ok (.iload_n 1, 1) := by decide +kernel
theorem dX3_danced_5 : decode cX3_danced 5 = .ok (.iconst 4, 1) := by decide +kernel
theorem dX3_danced_6 : decode cX3_danced 6 = .ok (.if_icmp .le 7, 3) := by decide +kernel
theorem dX3_danced_9 : decode cX3_danced 9 = .ok (.iconst (-1), 1) := by decide +kernel
theorem dX3_danced_10 : decode cX3_danced 10 = .ok (.goto 22, 3) := by decide +kernel
theorem dX3_danced_13 : decode cX3_danced 13 = .ok (.iload_n 1, 1) := by decide +kernel
theorem dX3_danced_14 : decode cX3_danced 14 = .ok (.ifCond .ne 10, 3) := by decide +kernel
theorem dX3_danced_17 : decode cX3_danced 17 = .ok (.aload_n 0, 1) := by decide +kernel
theorem dX3_danced_18 : decode cX3_danced 18 = .ok (.getfield 224, 3) := by decide +kernel
theorem dX3_danced_21 : decode cX3_danced 21 = .ok (.goto 11, 3) := by decide +kernel
theorem dX3_danced_24 : decode cX3_danced 24 = .ok (.aload_n 0, 1) := by decide +kernel
theorem dX3_danced_25 : decode cX3_danced 25 = .ok (.getfield 36, 3) := by decide +kernel
theorem dX3_danced_28 : decode cX3_danced 28 = .ok (.iload_n 1, 1) := by decide +kernel
theorem dX3_danced_29 : decode cX3_danced 29 = .ok (.iconst 1, 1) := by decide +kernel
theorem dX3_danced_30 : decode cX3_danced 30 = .ok (.isub, 1) := by decide +kernel
theorem dX3_danced_31 : decode cX3_danced 31 = .ok (.iaload, 1) := by decide +kernel
theorem dX3_danced_32 : decode cX3_danced 32 = .ok (.ireturn, 1) := by decide +kernel
theorem dX3_bar_0 : decode cX3_bar 0 = .ok (.iload_n 1, 1) := by decide +kernel
theorem dX3_bar_1 : decode cX3_bar 1 = .ok (.ifCond .ne 10, 3) := by decide +kernel
theorem dX3_bar_4 : decode cX3_bar 4 = .ok (.aload_n 0, 1) := by decide +kernel
theorem dX3_bar_5 : decode cX3_bar 5 = .ok (.getfield 153, 3) := by decide +kernel
theorem dX3_bar_8 : decode cX3_bar 8 = .ok (.goto 42, 3) := by decide +kernel
theorem dX3_bar_11 : decode cX3_bar 11 = .ok (.iload_n 1, 1) := by decide +kernel
theorem dX3_bar_12 : decode cX3_bar 12 = .ok (.iconst 1, 1) := by decide +kernel
theorem dX3_bar_13 : decode cX3_bar 13 = .ok (.if_icmp .ne 11, 3) := by decide +kernel
theorem dX3_bar_16 : decode cX3_bar 16 = .ok (.aload_n 0, 1) := by decide +kernel
theorem dX3_bar_17 : decode cX3_bar 17 = .ok (.getfield 157, 3) := by decide +kernel
theorem dX3_bar_20 : decode cX3_bar 20 = .ok (.i2l, 1) := by decide +kernel
theorem dX3_bar_21 : decode cX3_bar 21 = .ok (.goto 29, 3) := by decide +kernel
theorem dX3_bar_24 : decode cX3_bar 24 = .ok (.iload_n 1, 1) := by decide +kernel
theorem dX3_bar_25 : decode cX3_bar 25 = .ok (.iconst 2, 1) := by decide +kernel
theorem dX3_bar_26 : decode cX3_bar 26 = .ok (.if_icmp .ne 11, 3) := by decide +kernel
theorem dX3_bar_29 : decode cX3_bar 29 = .ok (.aload_n 0, 1) := by decide +kernel
theorem dX3_bar_30 : decode cX3_bar 30 = .ok (.getfield 161, 3) := by decide +kernel
theorem dX3_bar_33 : decode cX3_bar 33 = .ok (.i2l, 1) := by decide +kernel
theorem dX3_bar_34 : decode cX3_bar 34 = .ok (.goto 16, 3) := by decide +kernel
theorem dX3_bar_37 : decode cX3_bar 37 = .ok (.iload_n 1, 1) := by decide +kernel
theorem dX3_bar_38 : decode cX3_bar 38 = .ok (.iconst 3, 1) := by decide +kernel
theorem dX3_bar_39 : decode cX3_bar 39 = .ok (.if_icmp .ne 10, 3) := by decide +kernel
theorem dX3_bar_42 : decode cX3_bar 42 = .ok (.aload_n 0, 1) := by decide +kernel
theorem dX3_bar_43 : decode cX3_bar 43 = .ok (.getfield 164, 3) := by decide +kernel
theorem dX3_bar_46 : decode cX3_bar 46 = .ok (.goto 4, 3) := by decide +kernel
theorem dX3_bar_49 : decode cX3_bar 49 = .ok (.lconst 0, 1) := by decide +kernel
theorem dX3_bar_50 : decode cX3_bar 50 = .ok (.lreturn, 1) := by decide +kernel
set_option maxRecDepth 20000 in
theorem ggX3_isAhead_X3_place : GoodIn wsX3_isAhead wsX3_place := goodIn_r _ [9, 10] (by decide +kernel) (by decide +kernel)
set_option maxRecDepth 20000 in
theorem gX3_isAhead_X3_place : GoodIn wsX3_isAhead (va_wsS RX3 97 yX3_place wsX3_place) := goodIn_app (goodIn_of _ (by decide +kernel)) ggX3_isAhead_X3_place
set_option maxRecDepth 20000 in
theorem ggX3_isAhead_X3_place4 : GoodIn wsX3_isAhead wsX3_place4 := goodIn_r _ [13, 14] (by decide +kernel) (by decide +kernel)
set_option maxRecDepth 20000 in
theorem gX3_isAhead_X3_place4 : GoodIn wsX3_isAhead (va_wsS RX3 101 yX3_place4 wsX3_place4) := goodIn_app (goodIn_of _ (by decide +kernel)) ggX3_isAhead_X3_place4
theorem dX3_isAhead_0 : decode cX3_isAhead 0 = .ok (.aload_n 0, 1) := by decide +kernel
theorem dX3_isAhead_1 : decode cX3_isAhead 1 = .ok (.getfield 7, 3) := by decide +kernel
theorem dX3_isAhead_4 : decode cX3_isAhead 4 = .ok (.iload_n 1, 1) := by decide +kernel
theorem dX3_isAhead_5 : decode cX3_isAhead 5 = .ok (.baload, 1) := by decide +kernel
theorem dX3_isAhead_6 : decode cX3_isAhead 6 = .ok (.aload_n 0, 1) := by decide +kernel
theorem dX3_isAhead_7 : decode cX3_isAhead 7 = .ok (.getfield 7, 3) := by decide +kernel
theorem dX3_isAhead_10 : decode cX3_isAhead 10 = .ok (.iload_n 2, 1) := by decide +kernel
theorem dX3_isAhead_11 : decode cX3_isAhead 11 = .ok (.baload, 1) := by decide +kernel
theorem dX3_isAhead_12 : decode cX3_isAhead 12 = .ok (.if_icmp .eq 10, 3) := by decide +kernel
theorem dX3_isAhead_15 : decode cX3_isAhead 15 = .ok (.aload_n 0, 1) := by decide +kernel
theorem dX3_isAhead_16 : decode cX3_isAhead 16 = .ok (.getfield 7, 3) := by decide +kernel
theorem dX3_isAhead_19 : decode cX3_isAhead 19 = .ok (.iload_n 2, 1) := by decide +kernel
theorem dX3_isAhead_20 : decode cX3_isAhead 20 = .ok (.baload, 1) := by decide +kernel
theorem dX3_isAhead_21 : decode cX3_isAhead 21 = .ok (.ireturn, 1) := by decide +kernel
theorem dX3_isAhead_22 : decode cX3_isAhead 22 = .ok (.aload_n 0, 1) := by decide +kernel
theorem dX3_isAhead_23 : decode cX3_isAhead 23 = .ok (.getfield 7, 3) := by decide +kernel
theorem dX3_isAhead_26 : decode cX3_isAhead 26 = .ok (.iload_n 1, 1) := by decide +kernel
theorem dX3_isAhead_27 : decode cX3_isAhead 27 = .ok (.baload, 1) := by decide +kernel
theorem dX3_isAhead_28 : decode cX3_isAhead 28 = .ok (.ifCond .eq 14, 3) := by decide +kernel
theorem dX3_isAhead_31 : decode cX3_isAhead 31 = .ok (.iload_n 1, 1) := by decide +kernel
theorem dX3_isAhead_32 : decode cX3_isAhead 32 = .ok (.iload_n 2, 1) := by decide +kernel
theorem dX3_isAhead_33 : decode cX3_isAhead 33 = .ok (.if_icmp .ge 7, 3) := by decide +kernel
theorem dX3_isAhead_36 : decode cX3_isAhead 36 = .ok (.iconst 1, 1) := by decide +kernel
theorem dX3_isAhead_37 : decode cX3_isAhead 37 = .ok (.goto 4, 3) := by decide +kernel
theorem dX3_isAhead_40 : decode cX3_isAhead 40 = .ok (.iconst 0, 1) := by decide +kernel
theorem dX3_isAhead_41 : decode cX3_isAhead 41 = .ok (.ireturn, 1) := by decide +kernel
theorem dX3_isAhead_42 : decode cX3_isAhead 42 = .ok (.aload_n 0, 1) := by decide +kernel
theorem dX3_isAhead_43 : decode cX3_isAhead 43 = .ok (.getfield 13, 3) := by decide +kernel
theorem dX3_isAhead_46 : decode cX3_isAhead 46 = .ok (.iload_n 1, 1) := by decide +kernel
theorem dX3_isAhead_47 : decode cX3_isAhead 47 = .ok (.laload, 1) := by decide +kernel
theorem dX3_isAhead_48 : decode cX3_isAhead 48 = .ok (.aload_n 0, 1) := by decide +kernel
theorem dX3_isAhead_49 : decode cX3_isAhead 49 = .ok (.getfield 13, 3) := by decide +kernel
theorem dX3_isAhead_52 : decode cX3_isAhead 52 = .ok (.iload_n 2, 1) := by decide +kernel
theorem dX3_isAhead_53 : decode cX3_isAhead 53 = .ok (.laload, 1) := by decide +kernel
theorem dX3_isAhead_54 : decode cX3_isAhead 54 = .ok (.lcmp, 1) := by decide +kernel
theorem dX3_isAhead_55 : decode cX3_isAhead 55 = .ok (.ifCond .eq 31, 3) := by decide +kernel
theorem dX3_isAhead_58 : decode cX3_isAhead 58 = .ok (.aload_n 0, 1) := by decide +kernel
theorem dX3_isAhead_59 : decode cX3_isAhead 59 = .ok (.getfield 13, 3) := by decide +kernel
theorem dX3_isAhead_62 : decode cX3_isAhead 62 = .ok (.iload_n 1, 1) := by decide +kernel
theorem dX3_isAhead_63 : decode cX3_isAhead 63 = .ok (.laload, 1) := by decide +kernel
theorem dX3_isAhead_64 : decode cX3_isAhead 64 = .ok (.invokestatic 97, 3) := by decide +kernel
theorem dX3_isAhead_67 : decode cX3_isAhead 67 = .ok (.aload_n 0, 1) := by decide +kernel
theorem dX3_isAhead_68 : decode cX3_isAhead 68 = .ok (.getfield 13, 3) := by decide +kernel
theorem dX3_isAhead_71 : decode cX3_isAhead 71 = .ok (.iload_n 2, 1) := by decide +kernel
theorem dX3_isAhead_72 : decode cX3_isAhead 72 = .ok (.laload, 1) := by decide +kernel
theorem dX3_isAhead_73 : decode cX3_isAhead 73 = .ok (.invokestatic 97, 3) := by decide +kernel
theorem dX3_isAhead_76 : decode cX3_isAhead 76 = .ok (.lcmp, 1) := by decide +kernel
theorem dX3_isAhead_77 : decode cX3_isAhead 77 = .ok (.ifCond .ge 7, 3) := by decide +kernel
theorem dX3_isAhead_80 : decode cX3_isAhead 80 = .ok (.iconst 1, 1) := by decide +kernel
theorem dX3_isAhead_81 : decode cX3_isAhead 81 = .ok (.goto 4, 3) := by decide +kernel
theorem dX3_isAhead_84 : decode cX3_isAhead 84 = .ok (.iconst 0, 1) := by decide +kernel
theorem dX3_isAhead_85 : decode cX3_isAhead 85 = .ok (.ireturn, 1) := by decide +kernel
theorem dX3_isAhead_86 : decode cX3_isAhead 86 = .ok (.aload_n 0, 1) := by decide +kernel
theorem dX3_isAhead_87 : decode cX3_isAhead 87 = .ok (.getfield 17, 3) := by decide +kernel
theorem dX3_isAhead_90 : decode cX3_isAhead 90 = .ok (.iload_n 1, 1) := by decide +kernel
theorem dX3_isAhead_91 : decode cX3_isAhead 91 = .ok (.iaload, 1) := by decide +kernel
theorem dX3_isAhead_92 : decode cX3_isAhead 92 = .ok (.aload_n 0, 1) := by decide +kernel
theorem dX3_isAhead_93 : decode cX3_isAhead 93 = .ok (.getfield 17, 3) := by decide +kernel
theorem dX3_isAhead_96 : decode cX3_isAhead 96 = .ok (.iload_n 2, 1) := by decide +kernel
theorem dX3_isAhead_97 : decode cX3_isAhead 97 = .ok (.iaload, 1) := by decide +kernel
theorem dX3_isAhead_98 : decode cX3_isAhead 98 = .ok (.if_icmp .eq 30, 3) := by decide +kernel
theorem dX3_isAhead_101 : decode cX3_isAhead 101 = .ok (.aload_n 0, 1) := by decide +kernel
theorem dX3_isAhead_102 : decode cX3_isAhead 102 = .ok (.getfield 17, 3) := by decide +kernel
theorem dX3_isAhead_105 : decode cX3_isAhead 105 = .ok (.iload_n 1, 1) := by decide +kernel
theorem dX3_isAhead_106 : decode cX3_isAhead 106 = .ok (.iaload, 1) := by decide +kernel
theorem dX3_isAhead_107 : decode cX3_isAhead 107 = .ok (.invokestatic 101, 3) := by decide +kernel
theorem dX3_isAhead_110 : decode cX3_isAhead 110 = .ok (.aload_n 0, 1) := by decide +kernel
theorem dX3_isAhead_111 : decode cX3_isAhead 111 = .ok (.getfield 17, 3) := by decide +kernel
theorem dX3_isAhead_114 : decode cX3_isAhead 114 = .ok (.iload_n 2, 1) := by decide +kernel
theorem dX3_isAhead_115 : decode cX3_isAhead 115 = .ok (.iaload, 1) := by decide +kernel
theorem dX3_isAhead_116 : decode cX3_isAhead 116 = .ok (.invokestatic 101, 3) := by decide +kernel
theorem dX3_isAhead_119 : decode cX3_isAhead 119 = .ok (.if_icmp .ge 7, 3) := by decide +kernel
theorem dX3_isAhead_122 : decode cX3_isAhead 122 = .ok (.iconst 1, 1) := by decide +kernel
theorem dX3_isAhead_123 : decode cX3_isAhead 123 = .ok (.goto 4, 3) := by decide +kernel
theorem dX3_isAhead_126 : decode cX3_isAhead 126 = .ok (.iconst 0, 1) := by decide +kernel
theorem dX3_isAhead_127 : decode cX3_isAhead 127 = .ok (.ireturn, 1) := by decide +kernel
theorem dX3_isAhead_128 : decode cX3_isAhead 128 = .ok (.aload_n 0, 1) := by decide +kernel
theorem dX3_isAhead_129 : decode cX3_isAhead 129 = .ok (.getfield 21, 3) := by decide +kernel
theorem dX3_isAhead_132 : decode cX3_isAhead 132 = .ok (.iload_n 1, 1) := by decide +kernel
theorem dX3_isAhead_133 : decode cX3_isAhead 133 = .ok (.iaload, 1) := by decide +kernel
theorem dX3_isAhead_134 : decode cX3_isAhead 134 = .ok (.aload_n 0, 1) := by decide +kernel
theorem dX3_isAhead_135 : decode cX3_isAhead 135 = .ok (.getfield 21, 3) := by decide +kernel
theorem dX3_isAhead_138 : decode cX3_isAhead 138 = .ok (.iload_n 2, 1) := by decide +kernel
theorem dX3_isAhead_139 : decode cX3_isAhead 139 = .ok (.iaload, 1) := by decide +kernel
theorem dX3_isAhead_140 : decode cX3_isAhead 140 = .ok (.if_icmp .eq 24, 3) := by decide +kernel
theorem dX3_isAhead_143 : decode cX3_isAhead 143 = .ok (.aload_n 0, 1) := by decide +kernel
theorem dX3_isAhead_144 : decode cX3_isAhead 144 = .ok (.getfield 21, 3) := by decide +kernel
theorem dX3_isAhead_147 : decode cX3_isAhead 147 = .ok (.iload_n 1, 1) := by decide +kernel
theorem dX3_isAhead_148 : decode cX3_isAhead 148 = .ok (.iaload, 1) := by decide +kernel
theorem dX3_isAhead_149 : decode cX3_isAhead 149 = .ok (.aload_n 0, 1) := by decide +kernel
theorem dX3_isAhead_150 : decode cX3_isAhead 150 = .ok (.getfield 21, 3) := by decide +kernel
theorem dX3_isAhead_153 : decode cX3_isAhead 153 = .ok (.iload_n 2, 1) := by decide +kernel
theorem dX3_isAhead_154 : decode cX3_isAhead 154 = .ok (.iaload, 1) := by decide +kernel
theorem dX3_isAhead_155 : decode cX3_isAhead 155 = .ok (.if_icmp .ge 7, 3) := by decide +kernel
theorem dX3_isAhead_158 : decode cX3_isAhead 158 = .ok (.iconst 1, 1) := by decide +kernel
theorem dX3_isAhead_159 : decode cX3_isAhead 159 = .ok (.goto 4, 3) := by decide +kernel
theorem dX3_isAhead_162 : decode cX3_isAhead 162 = .ok (.iconst 0, 1) := by decide +kernel
theorem dX3_isAhead_163 : decode cX3_isAhead 163 = .ok (.ireturn, 1) := by decide +kernel
theorem dX3_isAhead_164 : decode cX3_isAhead 164 = .ok (.aload_n 0, 1) := by decide +kernel
theorem dX3_isAhead_165 : decode cX3_isAhead 165 = .ok (.getfield 24, 3) := by decide +kernel
theorem dX3_isAhead_168 : decode cX3_isAhead 168 = .ok (.iload_n 1, 1) := by decide +kernel
theorem dX3_isAhead_169 : decode cX3_isAhead 169 = .ok (.laload, 1) := by decide +kernel
theorem dX3_isAhead_170 : decode cX3_isAhead 170 = .ok (.aload_n 0, 1) := by decide +kernel
theorem dX3_isAhead_171 : decode cX3_isAhead 171 = .ok (.getfield 24, 3) := by decide +kernel
theorem dX3_isAhead_174 : decode cX3_isAhead 174 = .ok (.iload_n 2, 1) := by decide +kernel
theorem dX3_isAhead_175 : decode cX3_isAhead 175 = .ok (.laload, 1) := by decide +kernel
theorem dX3_isAhead_176 : decode cX3_isAhead 176 = .ok (.lcmp, 1) := by decide +kernel
theorem dX3_isAhead_177 : decode cX3_isAhead 177 = .ok (.ifCond .eq 27, 3) := by decide +kernel
theorem dX3_isAhead_180 : decode cX3_isAhead 180 = .ok (.aload_n 0, 1) := by decide +kernel
theorem dX3_isAhead_181 : decode cX3_isAhead 181 = .ok (.getfield 24, 3) := by decide +kernel
theorem dX3_isAhead_184 : decode cX3_isAhead 184 = .ok (.iload_n 1, 1) := by decide +kernel
theorem dX3_isAhead_185 : decode cX3_isAhead 185 = .ok (.laload, 1) := by decide +kernel
theorem dX3_isAhead_186 : decode cX3_isAhead 186 = .ok (.aload_n 0, 1) := by decide +kernel
theorem dX3_isAhead_187 : decode cX3_isAhead 187 = .ok (.getfield 24, 3) := by decide +kernel
theorem dX3_isAhead_190 : decode cX3_isAhead 190 = .ok (.iload_n 2, 1) := by decide +kernel
theorem dX3_isAhead_191 : decode cX3_isAhead 191 = .ok (.laload, 1) := by decide +kernel
theorem dX3_isAhead_192 : decode cX3_isAhead 192 = .ok (.lcmp, 1) := by decide +kernel
theorem dX3_isAhead_193 : decode cX3_isAhead 193 = .ok (.ifCond .ge 7, 3) := by decide +kernel
theorem dX3_isAhead_196 : decode cX3_isAhead 196 = .ok (.iconst 1, 1) := by decide +kernel
theorem dX3_isAhead_197 : decode cX3_isAhead 197 = .ok (.goto 17, 3) := by decide +kernel
theorem dX3_isAhead_200 : decode cX3_isAhead 200 = .ok (.iconst 0, 1) := by decide +kernel
theorem dX3_isAhead_201 : decode cX3_isAhead 201 = .ok (.goto 13, 3) := by decide +kernel
theorem dX3_isAhead_204 : decode cX3_isAhead 204 = .ok (.iload_n 1, 1) := by decide +kernel
theorem dX3_isAhead_205 : decode cX3_isAhead 205 = .ok (.iload_n 2, 1) := by decide +kernel
theorem dX3_isAhead_206 : decode cX3_isAhead 206 = .ok (.if_icmp .ge 7, 3) := by decide +kernel
theorem dX3_isAhead_209 : decode cX3_isAhead 209 = .ok (.iconst 1, 1) := by decide +kernel
theorem dX3_isAhead_210 : decode cX3_isAhead 210 = .ok (.goto 4, 3) := by decide +kernel
theorem dX3_isAhead_213 : decode cX3_isAhead 213 = .ok (.iconst 0, 1) := by decide +kernel
theorem dX3_isAhead_214 : decode cX3_isAhead 214 = .ok (.ireturn, 1) := by decide +kernel
set_option maxRecDepth 20000 in
theorem ggX3_order_X3_isAhead : GoodIn wsX3_order wsX3_isAhead := goodIn_r _ [5, 6, 7, 8, 9, 10, 11, 12, 4, 13, 14, 15, 16, 17, 18, 19, 20, 21, 22, 23, 24, 25, 26, 27, 28, 29, 30, 31, 32, 33, 34, 35, 36, 37, 38, 39] (by decide +kernel) (by decide +kernel)
set_option maxRecDepth 20000 in
theorem gX3_order_X3_isAhead : GoodIn wsX3_order (wsV RX3 227 RX3 yX3_isAhead wsX3_isAhead) := goodIn_app (goodIn_of _ (by decide +kernel)) ggX3_order_X3_isAhead
theorem dX3_order_0 : decode cX3_order 0 = .ok (.iconst 0, 1) := by decide +kernel
theorem dX3_order_1 : decode cX3_order 1 = .ok (.istore_n 2, 1) := by decide +kernel
theorem dX3_order_2 : decode cX3_order 2 = .ok (.iload_n 2, 1) := by decide +kernel
theorem dX3_order_3 : decode cX3_order 3 = .ok (.bipush 8, 2) := by decide +kernel
theorem dX3_order_5 : decode cX3_order 5 = .ok (.if_icmp .ge 58, 3) := by decide +kernel
theorem dX3_order_8 : decode cX3_order 8 = .ok (.iconst 0, 1) := by decide +kernel
theorem dX3_order_9 : decode cX3_order 9 = .ok (.istore_n 3, 1) := by decide +kernel
theorem dX3_order_10 : decode cX3_order 10 = .ok (.iconst 0, 1) := by decide +kernel
theorem dX3_order_11 : decode cX3_order 11 = .ok (.istore 4, 2) := by decide +kernel
theorem dX3_order_13 : decode cX3_order 13 = .ok (.iload 4, 2) := by decide +kernel
theorem dX3_order_15 : decode cX3_order 15 = .ok (.bipush 8, 2) := by decide +kernel
theorem dX3_order_17 : decode cX3_order 17 = .ok (.if_icmp .ge 33, 3) := by decide +kernel
theorem dX3_order_20 : decode cX3_order 20 = .ok (.iload_n 3, 1) := by decide +kernel
theorem dX3_order_21 : decode cX3_order 21 = .ok (.iload 4, 2) := by decide +kernel
theorem dX3_order_23 : decode cX3_order 23 = .ok (.iload_n 2, 1) := by decide +kernel
theorem dX3_order_24 : decode cX3_order 24 = .ok (.if_icmp .eq 17, 3) := by decide +kernel
theorem dX3_order_27 : decode cX3_order 27 = .ok (.aload_n 0, 1) := by decide +kernel
theorem dX3_order_28 : decode cX3_order 28 = .ok (.iload 4, 2) := by decide +kernel
theorem dX3_order_30 : decode cX3_order 30 = .ok (.iload_n 2, 1) := by decide +kernel
theorem dX3_order_31 : decode cX3_order 31 = .ok (.invokevirtual 227, 3) := by decide +kernel
theorem dX3_order_34 : decode cX3_order 34 = .ok (.ifCond .eq 7, 3) := by decide +kernel
theorem dX3_order_37 : decode cX3_order 37 = .ok (.iconst 1, 1) := by decide +kernel
theorem dX3_order_38 : decode cX3_order 38 = .ok (.goto 4, 3) := by decide +kernel
theorem dX3_order_41 : decode cX3_order 41 = .ok (.iconst 0, 1) := by decide +kernel
theorem dX3_order_42 : decode cX3_order 42 = .ok (.iadd, 1) := by decide +kernel
theorem dX3_order_43 : decode cX3_order 43 = .ok (.istore_n 3, 1) := by decide +kernel
theorem dX3_order_44 : decode cX3_order 44 = .ok (.iinc 4 1, 3) := by decide +kernel
theorem dX3_order_47 : decode cX3_order 47 = .ok (.goto (-34), 3) := by decide +kernel
theorem dX3_order_50 : decode cX3_order 50 = .ok (.iload_n 3, 1) := by decide +kernel
theorem dX3_order_51 : decode cX3_order 51 = .ok (.iload_n 1, 1) := by decide +kernel
theorem dX3_order_52 : decode cX3_order 52 = .ok (.if_icmp .ne 5, 3) := by decide +kernel
theorem dX3_order_55 : decode cX3_order 55 = .ok (.iload_n 2, 1) := by decide +kernel
theorem dX3_order_56 : decode cX3_order 56 = .ok (.ireturn, 1) := by decide +kernel
theorem dX3_order_57 : decode cX3_order 57 = .ok (.iinc 2 1, 3) := by decide +kernel
theorem dX3_order_60 : decode cX3_order 60 = .ok (.goto (-58), 3) := by decide +kernel
theorem dX3_order_63 : decode cX3_order 63 = .ok (.iconst (-1), 1) := by decide +kernel
theorem dX3_order_64 : decode cX3_order 64 = .ok (.ireturn, 1) := by decide +kernel
theorem dJ6_compare_7cf53_0 : decode cJ6_compare_7cf53 0 = .ok (.iload_n 0, 1) := by decide +kernel
theorem dJ6_compare_7cf53_1 : decode cJ6_compare_7cf53 1 = .ok (.iload_n 1, 1) := by decide +kernel
theorem dJ6_compare_7cf53_2 : decode cJ6_compare_7cf53 2 = .ok (.if_icmp .ge 7, 3) := by decide +kernel
theorem dJ6_compare_7cf53_5 : decode cJ6_compare_7cf53 5 = .ok (.iconst (-1), 1) := by decide +kernel
theorem dJ6_compare_7cf53_6 : decode cJ6_compare_7cf53 6 = .ok (.goto 13, 3) := by decide +kernel
theorem dJ6_compare_7cf53_9 : decode cJ6_compare_7cf53 9 = .ok (.iload_n 0, 1) := by decide +kernel
theorem dJ6_compare_7cf53_10 : decode cJ6_compare_7cf53 10 = .ok (.iload_n 1, 1) := by decide +kernel
theorem dJ6_compare_7cf53_11 : decode cJ6_compare_7cf53 11 = .ok (.if_icmp .ne 7, 3) := by decide +kernel
theorem dJ6_compare_7cf53_14 : decode cJ6_compare_7cf53 14 = .ok (.iconst 0, 1) := by decide +kernel
theorem dJ6_compare_7cf53_15 : decode cJ6_compare_7cf53 15 = .ok (.goto 4, 3) := by decide +kernel
theorem dJ6_compare_7cf53_18 : decode cJ6_compare_7cf53 18 = .ok (.iconst 1, 1) := by decide +kernel
theorem dJ6_compare_7cf53_19 : decode cJ6_compare_7cf53 19 = .ok (.ireturn, 1) := by decide +kernel
theorem dJ13_compare_74951_0 : decode cJ13_compare_74951 0 = .ok (.lload_n 0, 1) := by decide +kernel
theorem dJ13_compare_74951_1 : decode cJ13_compare_74951 1 = .ok (.lload_n 2, 1) := by decide +kernel
theorem dJ13_compare_74951_2 : decode cJ13_compare_74951 2 = .ok (.lcmp, 1) := by decide +kernel
theorem dJ13_compare_74951_3 : decode cJ13_compare_74951 3 = .ok (.ifCond .ge 7, 3) := by decide +kernel
theorem dJ13_compare_74951_6 : decode cJ13_compare_74951 6 = .ok (.iconst (-1), 1) := by decide +kernel
theorem dJ13_compare_74951_7 : decode cJ13_compare_74951 7 = .ok (.goto 14, 3) := by decide +kernel
theorem dJ13_compare_74951_10 : decode cJ13_compare_74951 10 = .ok (.lload_n 0, 1) := by decide +kernel
theorem dJ13_compare_74951_11 : decode cJ13_compare_74951 11 = .ok (.lload_n 2, 1) := by decide +kernel
theorem dJ13_compare_74951_12 : decode cJ13_compare_74951 12 = .ok (.lcmp, 1) := by decide +kernel
theorem dJ13_compare_74951_13 : decode cJ13_compare_74951 13 = .ok (.ifCond .ne 7, 3) := by decide +kernel
theorem dJ13_compare_74951_16 : decode cJ13_compare_74951 16 = .ok (.iconst 0, 1) := by decide +kernel
theorem dJ13_compare_74951_17 : decode cJ13_compare_74951 17 = .ok (.goto 4, 3) := by decide +kernel
theorem dJ13_compare_74951_20 : decode cJ13_compare_74951 20 = .ok (.iconst 1, 1) := by decide +kernel
theorem dJ13_compare_74951_21 : decode cJ13_compare_74951 21 = .ok (.ireturn, 1) := by decide +kernel
theorem dJ9_abs_0f7a4_0 : decode cJ9_abs_0f7a4 0 = .ok (.iload_n 0, 1) := by decide +kernel
theorem dJ9_abs_0f7a4_1 : decode cJ9_abs_0f7a4 1 = .ok (.ifCond .ge 8, 3) := by decide +kernel
theorem dJ9_abs_0f7a4_4 : decode cJ9_abs_0f7a4 4 = .ok (.iload_n 0, 1) := by decide +kernel
theorem dJ9_abs_0f7a4_5 : decode cJ9_abs_0f7a4 5 = .ok (.ineg, 1) := by decide +kernel
theorem dJ9_abs_0f7a4_6 : decode cJ9_abs_0f7a4 6 = .ok (.goto 4, 3) := by decide +kernel
theorem dJ9_abs_0f7a4_9 : decode cJ9_abs_0f7a4 9 = .ok (.iload_n 0, 1) := by decide +kernel
theorem dJ9_abs_0f7a4_10 : decode cJ9_abs_0f7a4 10 = .ok (.ireturn, 1) := by decide +kernel
theorem dJ9_abs_067f4_0 : decode cJ9_abs_067f4 0 = .ok (.lload_n 0, 1) := by decide +kernel
theorem dJ9_abs_067f4_1 : decode cJ9_abs_067f4 1 = .ok (.lconst 0, 1) := by decide +kernel
theorem dJ9_abs_067f4_2 : decode cJ9_abs_067f4 2 = .ok (.lcmp, 1) := by decide +kernel
theorem dJ9_abs_067f4_3 : decode cJ9_abs_067f4 3 = .ok (.ifCond .ge 8, 3) := by decide +kernel
theorem dJ9_abs_067f4_6 : decode cJ9_abs_067f4 6 = .ok (.lload_n 0, 1) := by decide +kernel
theorem dJ9_abs_067f4_7 : decode cJ9_abs_067f4 7 = .ok (.lneg, 1) := by decide +kernel
theorem dJ9_abs_067f4_8 : decode cJ9_abs_067f4 8 = .ok (.goto 4, 3) := by decide +kernel
theorem dJ9_abs_067f4_11 : decode cJ9_abs_067f4 11 = .ok (.lload_n 0, 1) := by decide +kernel
theorem dJ9_abs_067f4_12 : decode cJ9_abs_067f4 12 = .ok (.lreturn, 1) := by decide +kernel
theorem dJ9_max_7cf53_0 : decode cJ9_max_7cf53 0 = .ok (.iload_n 0, 1) := by decide +kernel
theorem dJ9_max_7cf53_1 : decode cJ9_max_7cf53 1 = .ok (.iload_n 1, 1) := by decide +kernel
theorem dJ9_max_7cf53_2 : decode cJ9_max_7cf53 2 = .ok (.if_icmp .lt 7, 3) := by decide +kernel
theorem dJ9_max_7cf53_5 : decode cJ9_max_7cf53 5 = .ok (.iload_n 0, 1) := by decide +kernel
theorem dJ9_max_7cf53_6 : decode cJ9_max_7cf53 6 = .ok (.goto 4, 3) := by decide +kernel
theorem dJ9_max_7cf53_9 : decode cJ9_max_7cf53 9 = .ok (.iload_n 1, 1) := by decide +kernel
theorem dJ9_max_7cf53_10 : decode cJ9_max_7cf53 10 = .ok (.ireturn, 1) := by decide +kernel
theorem dJ9_max_f86c9_0 : decode cJ9_max_f86c9 0 = .ok (.lload_n 0, 1) := by decide +kernel
theorem dJ9_max_f86c9_1 : decode cJ9_max_f86c9 1 = .ok (.lload_n 2, 1) := by decide +kernel
theorem dJ9_max_f86c9_2 : decode cJ9_max_f86c9 2 = .ok (.lcmp, 1) := by decide +kernel
theorem dJ9_max_f86c9_3 : decode cJ9_max_f86c9 3 = .ok (.ifCond .lt 7, 3) := by decide +kernel
theorem dJ9_max_f86c9_6 : decode cJ9_max_f86c9 6 = .ok (.lload_n 0, 1) := by decide +kernel
theorem dJ9_max_f86c9_7 : decode cJ9_max_f86c9 7 = .ok (.goto 4, 3) := by decide +kernel
theorem dJ9_max_f86c9_10 : decode cJ9_max_f86c9 10 = .ok (.lload_n 2, 1) := by decide +kernel
theorem dJ9_max_f86c9_11 : decode cJ9_max_f86c9 11 = .ok (.lreturn, 1) := by decide +kernel
theorem dJ9_min_7cf53_0 : decode cJ9_min_7cf53 0 = .ok (.iload_n 0, 1) := by decide +kernel
theorem dJ9_min_7cf53_1 : decode cJ9_min_7cf53 1 = .ok (.iload_n 1, 1) := by decide +kernel
theorem dJ9_min_7cf53_2 : decode cJ9_min_7cf53 2 = .ok (.if_icmp .gt 7, 3) := by decide +kernel
theorem dJ9_min_7cf53_5 : decode cJ9_min_7cf53 5 = .ok (.iload_n 0, 1) := by decide +kernel
theorem dJ9_min_7cf53_6 : decode cJ9_min_7cf53 6 = .ok (.goto 4, 3) := by decide +kernel
theorem dJ9_min_7cf53_9 : decode cJ9_min_7cf53 9 = .ok (.iload_n 1, 1) := by decide +kernel
theorem dJ9_min_7cf53_10 : decode cJ9_min_7cf53 10 = .ok (.ireturn, 1) := by decide +kernel
theorem dJ9_min_f86c9_0 : decode cJ9_min_f86c9 0 = .ok (.lload_n 0, 1) := by decide +kernel
theorem dJ9_min_f86c9_1 : decode cJ9_min_f86c9 1 = .ok (.lload_n 2, 1) := by decide +kernel
theorem dJ9_min_f86c9_2 : decode cJ9_min_f86c9 2 = .ok (.lcmp, 1) := by decide +kernel
theorem dJ9_min_f86c9_3 : decode cJ9_min_f86c9 3 = .ok (.ifCond .gt 7, 3) := by decide +kernel
theorem dJ9_min_f86c9_6 : decode cJ9_min_f86c9 6 = .ok (.lload_n 0, 1) := by decide +kernel
theorem dJ9_min_f86c9_7 : decode cJ9_min_f86c9 7 = .ok (.goto 4, 3) := by decide +kernel
theorem dJ9_min_f86c9_10 : decode cJ9_min_f86c9 10 = .ok (.lload_n 2, 1) := by decide +kernel
theorem dJ9_min_f86c9_11 : decode cJ9_min_f86c9 11 = .ok (.lreturn, 1) := by decide +kernel
abbrev vwCl : List vw_C := [(RX0, TX0, 4), (RX2, TX2, 15), (RX3, TX3, 21)]
