theorem dX0_init_0 : decode cX0_init 0 = .ok (.aload_n 0, 1) := by decide +kernel
theorem dX0_init_1 : decode cX0_init 1 = .ok (.invokespecial 3, 3) := by decide +kernel
theorem dX0_init_4 : decode cX0_init 4 = .ok (.aload_n 0, 1) := by decide +kernel
theorem dX0_init_5 : decode cX0_init 5 = .ok (.bipush 40, 2) := by decide +kernel
theorem dX0_init_7 : decode cX0_init 7 = .ok (.newarray .int, 2) := by decide +kernel
theorem dX0_init_9 : decode cX0_init 9 = .ok (.putfield 9, 3) := by decide +kernel
theorem dX0_init_12 : decode cX0_init 12 = .ok (.aload_n 0, 1) := by decide +kernel
theorem dX0_init_13 : decode cX0_init 13 = .ok (.bipush 40, 2) := by decide +kernel
theorem dX0_init_15 : decode cX0_init 15 = .ok (.newarray .int, 2) := by decide +kernel
theorem dX0_init_17 : decode cX0_init 17 = .ok (.putfield 15, 3) := by decide +kernel
theorem dX0_init_20 : decode cX0_init 20 = .ok (.aload_n 0, 1) := by decide +kernel
theorem dX0_init_21 : decode cX0_init 21 = .ok (.bipush 40, 2) := by decide +kernel
theorem dX0_init_23 : decode cX0_init 23 = .ok (.newarray .int, 2) := by decide +kernel
theorem dX0_init_25 : decode cX0_init 25 = .ok (.putfield 18, 3) := by decide +kernel
theorem dX0_init_28 : decode cX0_init 28 = .ok (.aload_n 0, 1) := by decide +kernel
theorem dX0_init_29 : decode cX0_init 29 = .ok (.iconst 0, 1) := by decide +kernel
theorem dX0_init_30 : decode cX0_init 30 = .ok (.putfield 21, 3) := by decide +kernel
theorem dX0_init_33 : decode cX0_init 33 = .ok (.return_, 1) := by decide +kernel
theorem dX1_amount_0 : decode cX1_amount 0 = .ok (.lload_n 0, 1) := by decide +kernel
theorem dX1_amount_1 : decode cX1_amount 1 = .ok (.ldc2_w 9, 3) := by decide +kernel
theorem dX1_amount_4 : decode cX1_amount 4 = .ok (.land, 1) := by decide +kernel
theorem dX1_amount_5 : decode cX1_amount 5 = .ok (.lreturn, 1) := by decide +kernel
theorem dX1_shortAmount_0 : decode cX1_shortAmount 0 = .ok (.iload_n 0, 1) := by decide +kernel
theorem dX1_shortAmount_1 : decode cX1_shortAmount 1 = .ok (.ldc 11, 2) := by decide +kernel
theorem dX1_shortAmount_3 : decode cX1_shortAmount 3 = .ok (.iand, 1) := by decide +kernel
theorem dX1_shortAmount_4 : decode cX1_shortAmount 4 = .ok (.ireturn, 1) := by decide +kernel
theorem dX1_withSign_0 : decode cX1_withSign 0 = .ok (.lload_n 0, 1) := by decide +kernel
theorem dX1_withSign_1 : decode cX1_withSign 1 = .ok (.lload_n 2, 1) := by decide +kernel
theorem dX1_withSign_2 : decode cX1_withSign 2 = .ok (.ldc2_w 12, 3) := by decide +kernel
theorem dX1_withSign_5 : decode cX1_withSign 5 = .ok (.land, 1) := by decide +kernel
theorem dX1_withSign_6 : decode cX1_withSign 6 = .ok (.lor, 1) := by decide +kernel
theorem dX1_withSign_7 : decode cX1_withSign 7 = .ok (.lreturn, 1) := by decide +kernel
theorem dX1_shortWithSign_0 : decode cX1_shortWithSign 0 = .ok (.iload_n 0, 1) := by decide +kernel
theorem dX1_shortWithSign_1 : decode cX1_shortWithSign 1 = .ok (.iload_n 1, 1) := by decide +kernel
theorem dX1_shortWithSign_2 : decode cX1_shortWithSign 2 = .ok (.ldc 14, 2) := by decide +kernel
theorem dX1_shortWithSign_4 : decode cX1_shortWithSign 4 = .ok (.iand, 1) := by decide +kernel
theorem dX1_shortWithSign_5 : decode cX1_shortWithSign 5 = .ok (.ior, 1) := by decide +kernel
theorem dX1_shortWithSign_6 : decode cX1_shortWithSign 6 = .ok (.ireturn, 1) := by decide +kernel
theorem dX1_rank_0 : decode cX1_rank 0 = .ok (.lload_n 0, 1) := by decide +kernel
theorem dX1_rank_1 : decode cX1_rank 1 = .ok (.lconst 0, 1) := by decide +kernel
theorem dX1_rank_2 : decode cX1_rank 2 = .ok (.lcmp, 1) := by decide +kernel
theorem dX1_rank_3 : decode cX1_rank 3 = .ok (.ifCond .ge 11, 3) := by decide +kernel
theorem dX1_rank_6 : decode cX1_rank 6 = .ok (.lload_n 0, 1) := by decide +kernel
theorem dX1_rank_7 : decode cX1_rank 7 = .ok (.ldc2_w 9, 3) := by decide +kernel
theorem dX1_rank_10 : decode cX1_rank 10 = .ok (.lxor, 1) := by decide +kernel
theorem dX1_rank_11 : decode cX1_rank 11 = .ok (.goto 4, 3) := by decide +kernel
theorem dX1_rank_14 : decode cX1_rank 14 = .ok (.lload_n 0, 1) := by decide +kernel
theorem dX1_rank_15 : decode cX1_rank 15 = .ok (.lreturn, 1) := by decide +kernel
theorem dX1_shortRank_0 : decode cX1_shortRank 0 = .ok (.iload_n 0, 1) := by decide +kernel
theorem dX1_shortRank_1 : decode cX1_shortRank 1 = .ok (.ifCond .ge 10, 3) := by decide +kernel
theorem dX1_shortRank_4 : decode cX1_shortRank 4 = .ok (.iload_n 0, 1) := by decide +kernel
theorem dX1_shortRank_5 : decode cX1_shortRank 5 = .ok (.ldc 11, 2) := by decide +kernel
theorem dX1_shortRank_7 : decode cX1_shortRank 7 = .ok (.ixor, 1) := by decide +kernel
theorem dX1_shortRank_8 : decode cX1_shortRank 8 = .ok (.goto 4, 3) := by decide +kernel
theorem dX1_shortRank_11 : decode cX1_shortRank 11 = .ok (.iload_n 0, 1) := by decide +kernel
theorem dX1_shortRank_12 : decode cX1_shortRank 12 = .ok (.ireturn, 1) := by decide +kernel
set_option maxRecDepth 20000 in
theorem ggX1_greater_X1_rank : GoodIn wsX1_greater wsX1_rank := goodIn_r _ [4, 5] (by decide +kernel) (by decide +kernel)
set_option maxRecDepth 20000 in
theorem gX1_greater_X1_rank : GoodIn wsX1_greater (va_wsS RX1 15 yX1_rank wsX1_rank) := goodIn_app (goodIn_of _ (by decide +kernel)) ggX1_greater_X1_rank
theorem dX1_greater_0 : decode cX1_greater 0 = .ok (.lload_n 0, 1) := by decide +kernel
theorem dX1_greater_1 : decode cX1_greater 1 = .ok (.invokestatic 15, 3) := by decide +kernel
theorem dX1_greater_4 : decode cX1_greater 4 = .ok (.lload_n 2, 1) := by decide +kernel
theorem dX1_greater_5 : decode cX1_greater 5 = .ok (.invokestatic 15, 3) := by decide +kernel
theorem dX1_greater_8 : decode cX1_greater 8 = .ok (.lcmp, 1) := by decide +kernel
theorem dX1_greater_9 : decode cX1_greater 9 = .ok (.ifCond .lt 7, 3) := by decide +kernel
theorem dX1_greater_12 : decode cX1_greater 12 = .ok (.lload_n 0, 1) := by decide +kernel
theorem dX1_greater_13 : decode cX1_greater 13 = .ok (.goto 4, 3) := by decide +kernel
theorem dX1_greater_16 : decode cX1_greater 16 = .ok (.lload_n 2, 1) := by decide +kernel
theorem dX1_greater_17 : decode cX1_greater 17 = .ok (.lreturn, 1) := by decide +kernel
set_option maxRecDepth 20000 in
theorem ggX1_lesser_X1_rank : GoodIn wsX1_lesser wsX1_rank := goodIn_r _ [4, 5] (by decide +kernel) (by decide +kernel)
set_option maxRecDepth 20000 in
theorem gX1_lesser_X1_rank : GoodIn wsX1_lesser (va_wsS RX1 15 yX1_rank wsX1_rank) := goodIn_app (goodIn_of _ (by decide +kernel)) ggX1_lesser_X1_rank
theorem dX1_lesser_0 : decode cX1_lesser 0 = .ok (.lload_n 0, 1) := by decide +kernel
theorem dX1_lesser_1 : decode cX1_lesser 1 = .ok (.invokestatic 15, 3) := by decide +kernel
theorem dX1_lesser_4 : decode cX1_lesser 4 = .ok (.lload_n 2, 1) := by decide +kernel
theorem dX1_lesser_5 : decode cX1_lesser 5 = .ok (.invokestatic 15, 3) := by decide +kernel
theorem dX1_lesser_8 : decode cX1_lesser 8 = .ok (.lcmp, 1) := by decide +kernel
theorem dX1_lesser_9 : decode cX1_lesser 9 = .ok (.ifCond .gt 7, 3) := by decide +kernel
theorem dX1_lesser_12 : decode cX1_lesser 12 = .ok (.lload_n 0, 1) := by decide +kernel
theorem dX1_lesser_13 : decode cX1_lesser 13 = .ok (.goto 4, 3) := by decide +kernel
theorem dX1_lesser_16 : decode cX1_lesser 16 = .ok (.lload_n 2, 1) := by decide +kernel
theorem dX1_lesser_17 : decode cX1_lesser 17 = .ok (.lreturn, 1) := by decide +kernel
set_option maxRecDepth 20000 in
theorem ggX1_shortGreater_X1_shortRank : GoodIn wsX1_shortGreater wsX1_shortRank := goodIn_r _ [4, 5] (by decide +kernel) (by decide +kernel)
set_option maxRecDepth 20000 in
theorem gX1_shortGreater_X1_shortRank : GoodIn wsX1_shortGreater (va_wsS RX1 19 yX1_shortRank wsX1_shortRank) := goodIn_app (goodIn_of _ (by decide +kernel)) ggX1_shortGreater_X1_shortRank
theorem dX1_shortGreater_0 : decode cX1_shortGreater 0 = .ok (.iload_n 0, 1) := by decide +kernel
theorem dX1_shortGreater_1 : decode cX1_shortGreater 1 = .ok (.invokestatic 19, 3) := by decide +kernel
theorem dX1_shortGreater_4 : decode cX1_shortGreater 4 = .ok (.iload_n 1, 1) := by decide +kernel
theorem dX1_shortGreater_5 : decode cX1_shortGreater 5 = .ok (.invokestatic 19, 3) := by decide +kernel
theorem dX1_shortGreater_8 : decode cX1_shortGreater 8 = .ok (.if_icmp .lt 7, 3) := by decide +kernel
theorem dX1_shortGreater_11 : decode cX1_shortGreater 11 = .ok (.iload_n 0, 1) := by decide +kernel
theorem dX1_shortGreater_12 : decode cX1_shortGreater 12 = .ok (.goto 4, 3) := by decide +kernel
theorem dX1_shortGreater_15 : decode cX1_shortGreater 15 = .ok (.iload_n 1, 1) := by decide +kernel
theorem dX1_shortGreater_16 : decode cX1_shortGreater 16 = .ok (.ireturn, 1) := by decide +kernel
set_option maxRecDepth 20000 in
theorem ggX1_shortLesser_X1_shortRank : GoodIn wsX1_shortLesser wsX1_shortRank := goodIn_r _ [4, 5] (by decide +kernel) (by decide +kernel)
set_option maxRecDepth 20000 in
theorem gX1_shortLesser_X1_shortRank : GoodIn wsX1_shortLesser (va_wsS RX1 19 yX1_shortRank wsX1_shortRank) := goodIn_app (goodIn_of _ (by decide +kernel)) ggX1_shortLesser_X1_shortRank
theorem dX1_shortLesser_0 : decode cX1_shortLesser 0 = .ok (.iload_n 0, 1) := by decide +kernel
theorem dX1_shortLesser_1 : decode cX1_shortLesser 1 = .ok (.invokestatic 19, 3) := by decide +kernel
theorem dX1_shortLesser_4 : decode cX1_shortLesser 4 = .ok (.iload_n 1, 1) := by decide +kernel
theorem dX1_shortLesser_5 : decode cX1_shortLesser 5 = .ok (.invokestatic 19, 3) := by decide +kernel
theorem dX1_shortLesser_8 : decode cX1_shortLesser 8 = .ok (.if_icmp .gt 7, 3) := by decide +kernel
theorem dX1_shortLesser_11 : decode cX1_shortLesser 11 = .ok (.iload_n 0, 1) := by decide +kernel
theorem dX1_shortLesser_12 : decode cX1_shortLesser 12 = .ok (.goto 4, 3) := by decide +kernel
theorem dX1_shortLesser_15 : decode cX1_shortLesser 15 = .ok (.iload_n 1, 1) := by decide +kernel
theorem dX1_shortLesser_16 : decode cX1_shortLesser 16 = .ok (.ireturn, 1) := by decide +kernel
theorem dX1_power_0 : decode cX1_power 0 = .ok (.lload_n 0, 1) := by decide +kernel
theorem dX1_power_1 : decode cX1_power 1 = .ok (.iload_n 2, 1) := by decide +kernel
theorem dX1_power_2 : decode cX1_power 2 = .ok (.lshr, 1) := by decide +kernel
theorem dX1_power_3 : decode cX1_power 3 = .ok (.l2i, 1) := by decide +kernel
theorem dX1_power_4 : decode cX1_power 4 = .ok (.iload_n 3, 1) := by decide +kernel
theorem dX1_power_5 : decode cX1_power 5 = .ok (.isub, 1) := by decide +kernel
theorem dX1_power_6 : decode cX1_power 6 = .ok (.ireturn, 1) := by decide +kernel
set_option maxRecDepth 20000 in
theorem ggX1_wholeBelow_X1_power : GoodIn wsX1_wholeBelow wsX1_power := goodIn_r _ [4] (by decide +kernel) (by decide +kernel)
set_option maxRecDepth 20000 in
theorem gX1_wholeBelow_X1_power : GoodIn wsX1_wholeBelow (va_wsS RX1 23 yX1_power wsX1_power) := goodIn_app (goodIn_of _ (by decide +kernel)) ggX1_wholeBelow_X1_power
theorem dX1_wholeBelow_0 : decode cX1_wholeBelow 0 = .ok (.lload_n 0, 1) := by decide +kernel
theorem dX1_wholeBelow_1 : decode cX1_wholeBelow 1 = .ok (.iload_n 2, 1) := by decide +kernel
theorem dX1_wholeBelow_2 : decode cX1_wholeBelow 2 = .ok (.iload_n 3, 1) := by decide +kernel
theorem dX1_wholeBelow_3 : decode cX1_wholeBelow 3 = .ok (.invokestatic 23, 3) := by decide +kernel
theorem dX1_wholeBelow_6 : decode cX1_wholeBelow 6 = .ok (.istore 4, 2) := by decide +kernel
theorem dX1_wholeBelow_8 : decode cX1_wholeBelow 8 = .ok (.iload 4, 2) := by decide +kernel
theorem dX1_wholeBelow_10 : decode cX1_wholeBelow 10 = .ok (.ifCond .ge 5, 3) := by decide +kernel
theorem dX1_wholeBelow_13 : decode cX1_wholeBelow 13 = .ok (.lconst 0, 1) := by decide +kernel
theorem dX1_wholeBelow_14 : decode cX1_wholeBelow 14 = .ok (.lreturn, 1) := by decide +kernel
theorem dX1_wholeBelow_15 : decode cX1_wholeBelow 15 = .ok (.iload 4, 2) := by decide +kernel
theorem dX1_wholeBelow_17 : decode cX1_wholeBelow 17 = .ok (.iload_n 2, 1) := by decide +kernel
theorem dX1_wholeBelow_18 : decode cX1_wholeBelow 18 = .ok (.if_icmp .lt 7, 3) := by decide +kernel
theorem dX1_wholeBelow_21 : decode cX1_wholeBelow 21 = .ok (.lload_n 0, 1) := by decide +kernel
theorem dX1_wholeBelow_22 : decode cX1_wholeBelow 22 = .ok (.goto 12, 3) := by decide +kernel
theorem dX1_wholeBelow_25 : decode cX1_wholeBelow 25 = .ok (.lload_n 0, 1) := by decide +kernel
theorem dX1_wholeBelow_26 : decode cX1_wholeBelow 26 = .ok (.lconst 1, 1) := by decide +kernel
theorem dX1_wholeBelow_27 : decode cX1_wholeBelow 27 = .ok (.iload_n 2, 1) := by decide +kernel
theorem dX1_wholeBelow_28 : decode cX1_wholeBelow 28 = .ok (.iload 4, 2) := by decide +kernel
theorem dX1_wholeBelow_30 : decode cX1_wholeBelow 30 = .ok (.isub, 1) := by decide +kernel
theorem dX1_wholeBelow_31 : decode cX1_wholeBelow 31 = .ok (.lshl, 1) := by decide +kernel
theorem dX1_wholeBelow_32 : decode cX1_wholeBelow 32 = .ok (.lneg, 1) := by decide +kernel
theorem dX1_wholeBelow_33 : decode cX1_wholeBelow 33 = .ok (.land, 1) := by decide +kernel
theorem dX1_wholeBelow_34 : decode cX1_wholeBelow 34 = .ok (.lreturn, 1) := by decide +kernel
set_option maxRecDepth 20000 in
theorem ggX1_wholeAbove_X1_wholeBelow : GoodIn wsX1_wholeAbove wsX1_wholeBelow := goodIn_r _ [4, 5, 6, 3, 7] (by decide +kernel) (by decide +kernel)
set_option maxRecDepth 20000 in
theorem gX1_wholeAbove_X1_wholeBelow : GoodIn wsX1_wholeAbove (va_wsS RX1 27 yX1_wholeBelow wsX1_wholeBelow) := goodIn_app (goodIn_of _ (by decide +kernel)) ggX1_wholeAbove_X1_wholeBelow
set_option maxRecDepth 20000 in
theorem ggX1_wholeAbove_X1_nextWhole : GoodIn wsX1_wholeAbove wsX1_nextWhole := goodIn_r _ [10, 5, 6, 3, 7] (by decide +kernel) (by decide +kernel)
set_option maxRecDepth 20000 in
theorem gX1_wholeAbove_X1_nextWhole : GoodIn wsX1_wholeAbove (va_wsS RX1 31 yX1_nextWhole wsX1_nextWhole) := goodIn_app (goodIn_of _ (by decide +kernel)) ggX1_wholeAbove_X1_nextWhole
theorem dX1_wholeAbove_0 : decode cX1_wholeAbove 0 = .ok (.lload_n 0, 1) := by decide +kernel
theorem dX1_wholeAbove_1 : decode cX1_wholeAbove 1 = .ok (.iload_n 2, 1) := by decide +kernel
theorem dX1_wholeAbove_2 : decode cX1_wholeAbove 2 = .ok (.iload_n 3, 1) := by decide +kernel
theorem dX1_wholeAbove_3 : decode cX1_wholeAbove 3 = .ok (.invokestatic 27, 3) := by decide +kernel
theorem dX1_wholeAbove_6 : decode cX1_wholeAbove 6 = .ok (.lstore 4, 2) := by decide +kernel
theorem dX1_wholeAbove_8 : decode cX1_wholeAbove 8 = .ok (.lload 4, 2) := by decide +kernel
theorem dX1_wholeAbove_10 : decode cX1_wholeAbove 10 = .ok (.lload_n 0, 1) := by decide +kernel
theorem dX1_wholeAbove_11 : decode cX1_wholeAbove 11 = .ok (.lcmp, 1) := by decide +kernel
theorem dX1_wholeAbove_12 : decode cX1_wholeAbove 12 = .ok (.ifCond .ne 7, 3) := by decide +kernel
theorem dX1_wholeAbove_15 : decode cX1_wholeAbove 15 = .ok (.lload_n 0, 1) := by decide +kernel
theorem dX1_wholeAbove_16 : decode cX1_wholeAbove 16 = .ok (.goto 10, 3) := by decide +kernel
theorem dX1_wholeAbove_19 : decode cX1_wholeAbove 19 = .ok (.lload 4, 2) := by decide +kernel
theorem dX1_wholeAbove_21 : decode cX1_wholeAbove 21 = .ok (.iload_n 2, 1) := by decide +kernel
theorem dX1_wholeAbove_22 : decode cX1_wholeAbove 22 = .ok (.iload_n 3, 1) := by decide +kernel
theorem dX1_wholeAbove_23 : decode cX1_wholeAbove 23 = .ok (.invokestatic 31, 3) := by decide +kernel
theorem dX1_wholeAbove_26 : decode cX1_wholeAbove 26 = .ok (.lreturn, 1) := by decide +kernel
set_option maxRecDepth 20000 in
theorem ggX1_wholeNear_X1_wholeBelow : GoodIn wsX1_wholeNear wsX1_wholeBelow := goodIn_r _ [4, 5, 6, 3, 7] (by decide +kernel) (by decide +kernel)
set_option maxRecDepth 20000 in
theorem gX1_wholeNear_X1_wholeBelow : GoodIn wsX1_wholeNear (va_wsS RX1 27 yX1_wholeBelow wsX1_wholeBelow) := goodIn_app (goodIn_of _ (by decide +kernel)) ggX1_wholeNear_X1_wholeBelow
set_option maxRecDepth 20000 in
theorem ggX1_wholeNear_X1_power : GoodIn wsX1_wholeNear wsX1_power := goodIn_r _ [7] (by decide +kernel) (by decide +kernel)
set_option maxRecDepth 20000 in
theorem gX1_wholeNear_X1_power : GoodIn wsX1_wholeNear (va_wsS RX1 23 yX1_power wsX1_power) := goodIn_app (goodIn_of _ (by decide +kernel)) ggX1_wholeNear_X1_power
set_option maxRecDepth 20000 in
theorem ggX1_wholeNear_X1_nextWhole : GoodIn wsX1_wholeNear wsX1_nextWhole := goodIn_r _ [10, 5, 6, 3, 7] (by decide +kernel) (by decide +kernel)
set_option maxRecDepth 20000 in
theorem gX1_wholeNear_X1_nextWhole : GoodIn wsX1_wholeNear (va_wsS RX1 31 yX1_nextWhole wsX1_nextWhole) := goodIn_app (goodIn_of _ (by decide +kernel)) ggX1_wholeNear_X1_nextWhole
theorem dX1_wholeNear_0 : decode cX1_wholeNear 0 = .ok (.lload_n 0, 1) := by decide +kernel
theorem dX1_wholeNear_1 : decode cX1_wholeNear 1 = .ok (.iload_n 2, 1) := by decide +kernel
theorem dX1_wholeNear_2 : decode cX1_wholeNear 2 = .ok (.iload_n 3, 1) := by decide +kernel
theorem dX1_wholeNear_3 : decode cX1_wholeNear 3 = .ok (.invokestatic 27, 3) := by decide +kernel
theorem dX1_wholeNear_6 : decode cX1_wholeNear 6 = .ok (.lstore 4, 2) := by decide +kernel
theorem dX1_wholeNear_8 : decode cX1_wholeNear 8 = .ok (.lload 4, 2) := by decide +kernel
theorem dX1_wholeNear_10 : decode cX1_wholeNear 10 = .ok (.lload_n 0, 1) := by decide +kernel
theorem dX1_wholeNear_11 : decode cX1_wholeNear 11 = .ok (.lcmp, 1) := by decide +kernel
theorem dX1_wholeNear_12 : decode cX1_wholeNear 12 = .ok (.ifCond .ne 5, 3) := by decide +kernel
theorem dX1_wholeNear_15 : decode cX1_wholeNear 15 = .ok (.lload_n 0, 1) := by decide +kernel
theorem dX1_wholeNear_16 : decode cX1_wholeNear 16 = .ok (.lreturn, 1) := by decide +kernel
theorem dX1_wholeNear_17 : decode cX1_wholeNear 17 = .ok (.lload_n 0, 1) := by decide +kernel
theorem dX1_wholeNear_18 : decode cX1_wholeNear 18 = .ok (.iload_n 2, 1) := by decide +kernel
theorem dX1_wholeNear_19 : decode cX1_wholeNear 19 = .ok (.iload_n 3, 1) := by decide +kernel
theorem dX1_wholeNear_20 : decode cX1_wholeNear 20 = .ok (.invokestatic 23, 3) := by decide +kernel
theorem dX1_wholeNear_23 : decode cX1_wholeNear 23 = .ok (.istore 6, 2) := by decide +kernel
theorem dX1_wholeNear_25 : decode cX1_wholeNear 25 = .ok (.iload 6, 2) := by decide +kernel
theorem dX1_wholeNear_27 : decode cX1_wholeNear 27 = .ok (.ifCond .ge 29, 3) := by decide +kernel
theorem dX1_wholeNear_30 : decode cX1_wholeNear 30 = .ok (.iload_n 3, 1) := by decide +kernel
theorem dX1_wholeNear_31 : decode cX1_wholeNear 31 = .ok (.iconst 1, 1) := by decide +kernel
theorem dX1_wholeNear_32 : decode cX1_wholeNear 32 = .ok (.isub, 1) := by decide +kernel
theorem dX1_wholeNear_33 : decode cX1_wholeNear 33 = .ok (.i2l, 1) := by decide +kernel
theorem dX1_wholeNear_34 : decode cX1_wholeNear 34 = .ok (.iload_n 2, 1) := by decide +kernel
theorem dX1_wholeNear_35 : decode cX1_wholeNear 35 = .ok (.lshl, 1) := by decide +kernel
theorem dX1_wholeNear_36 : decode cX1_wholeNear 36 = .ok (.lstore 7, 2) := by decide +kernel
theorem dX1_wholeNear_38 : decode cX1_wholeNear 38 = .ok (.lload_n 0, 1) := by decide +kernel
theorem dX1_wholeNear_39 : decode cX1_wholeNear 39 = .ok (.lload 7, 2) := by decide +kernel
theorem dX1_wholeNear_41 : decode cX1_wholeNear 41 = .ok (.lcmp, 1) := by decide +kernel
theorem dX1_wholeNear_42 : decode cX1_wholeNear 42 = .ok (.ifCond .gt 7, 3) := by decide +kernel
theorem dX1_wholeNear_45 : decode cX1_wholeNear 45 = .ok (.lconst 0, 1) := by decide +kernel
theorem dX1_wholeNear_46 : decode cX1_wholeNear 46 = .ok (.goto 9, 3) := by decide +kernel
theorem dX1_wholeNear_49 : decode cX1_wholeNear 49 = .ok (.lconst 0, 1) := by decide +kernel
theorem dX1_wholeNear_50 : decode cX1_wholeNear 50 = .ok (.iload_n 2, 1) := by decide +kernel
theorem dX1_wholeNear_51 : decode cX1_wholeNear 51 = .ok (.iload_n 3, 1) := by decide +kernel
theorem dX1_wholeNear_52 : decode cX1_wholeNear 52 = .ok (.invokestatic 31, 3) := by decide +kernel
theorem dX1_wholeNear_55 : decode cX1_wholeNear 55 = .ok (.lreturn, 1) := by decide +kernel
theorem dX1_wholeNear_56 : decode cX1_wholeNear 56 = .ok (.lconst 1, 1) := by decide +kernel
theorem dX1_wholeNear_57 : decode cX1_wholeNear 57 = .ok (.iload_n 2, 1) := by decide +kernel
theorem dX1_wholeNear_58 : decode cX1_wholeNear 58 = .ok (.iload 6, 2) := by decide +kernel
theorem dX1_wholeNear_60 : decode cX1_wholeNear 60 = .ok (.isub, 1) := by decide +kernel
theorem dX1_wholeNear_61 : decode cX1_wholeNear 61 = .ok (.lshl, 1) := by decide +kernel
theorem dX1_wholeNear_62 : decode cX1_wholeNear 62 = .ok (.lstore 7, 2) := by decide +kernel
theorem dX1_wholeNear_64 : decode cX1_wholeNear 64 = .ok (.lload_n 0, 1) := by decide +kernel
theorem dX1_wholeNear_65 : decode cX1_wholeNear 65 = .ok (.lload 4, 2) := by decide +kernel
theorem dX1_wholeNear_67 : decode cX1_wholeNear 67 = .ok (.lsub, 1) := by decide +kernel
theorem dX1_wholeNear_68 : decode cX1_wholeNear 68 = .ok (.lload 7, 2) := by decide +kernel
theorem dX1_wholeNear_70 : decode cX1_wholeNear 70 = .ok (.iconst 1, 1) := by decide +kernel
theorem dX1_wholeNear_71 : decode cX1_wholeNear 71 = .ok (.lshr, 1) := by decide +kernel
theorem dX1_wholeNear_72 : decode cX1_wholeNear 72 = .ok (.lsub, 1) := by decide +kernel
theorem dX1_wholeNear_73 : decode cX1_wholeNear 73 = .ok (.lstore 9, 2) := by decide +kernel
theorem dX1_wholeNear_75 : decode cX1_wholeNear 75 = .ok (.lload 4, 2) := by decide +kernel
theorem dX1_wholeNear_77 : decode cX1_wholeNear 77 = .ok (.lload 7, 2) := by decide +kernel
theorem dX1_wholeNear_79 : decode cX1_wholeNear 79 = .ok (.land, 1) := by decide +kernel
theorem dX1_wholeNear_80 : decode cX1_wholeNear 80 = .ok (.lconst 0, 1) := by decide +kernel
theorem dX1_wholeNear_81 : decode cX1_wholeNear 81 = .ok (.lcmp, 1) := by decide +kernel
theorem dX1_wholeNear_82 : decode cX1_wholeNear 82 = .ok (.ifCond .ne 7, 3) := by decide +kernel
theorem dX1_wholeNear_85 : decode cX1_wholeNear 85 = .ok (.iconst 1, 1) := by decide +kernel
theorem dX1_wholeNear_86 : decode cX1_wholeNear 86 = .ok (.goto 4, 3) := by decide +kernel
theorem dX1_wholeNear_89 : decode cX1_wholeNear 89 = .ok (.iconst 0, 1) := by decide +kernel
theorem dX1_wholeNear_90 : decode cX1_wholeNear 90 = .ok (.istore 11, 2) := by decide +kernel
theorem dX1_wholeNear_92 : decode cX1_wholeNear 92 = .ok (.lload 9, 2) := by decide +kernel
theorem dX1_wholeNear_94 : decode cX1_wholeNear 94 = .ok (.lconst 0, 1) := by decide +kernel
theorem dX1_wholeNear_95 : decode cX1_wholeNear 95 = .ok (.lcmp, 1) := by decide +kernel
theorem dX1_wholeNear_96 : decode cX1_wholeNear 96 = .ok (.ifCond .lt 15, 3) := by decide +kernel
theorem dX1_wholeNear_99 : decode cX1_wholeNear 99 = .ok (.lload 9, 2) := by decide +kernel
theorem dX1_wholeNear_101 : decode cX1_wholeNear 101 = .ok (.lconst 0, 1) := by decide +kernel
theorem dX1_wholeNear_102 : decode cX1_wholeNear 102 = .ok (.lcmp, 1) := by decide +kernel
theorem dX1_wholeNear_103 : decode cX1_wholeNear 103 = .ok (.ifCond .ne 12, 3) := by decide +kernel
theorem dX1_wholeNear_106 : decode cX1_wholeNear 106 = .ok (.iload 11, 2) := by decide +kernel
theorem dX1_wholeNear_108 : decode cX1_wholeNear 108 = .ok (.ifCond .eq 7, 3) := by decide +kernel
theorem dX1_wholeNear_111 : decode cX1_wholeNear 111 = .ok (.iconst 1, 1) := by decide +kernel
theorem dX1_wholeNear_112 : decode cX1_wholeNear 112 = .ok (.goto 4, 3) := by decide +kernel
theorem dX1_wholeNear_115 : decode cX1_wholeNear 115 = .ok (.iconst 0, 1) := by decide +kernel
theorem dX1_wholeNear_116 : decode cX1_wholeNear 116 = .ok (.istore 12, 2) := by decide +kernel
theorem dX1_wholeNear_118 : decode cX1_wholeNear 118 = .ok (.iload 12, 2) := by decide +kernel
theorem dX1_wholeNear_120 : decode cX1_wholeNear 120 = .ok (.ifCond .eq 8, 3) := by decide +kernel
theorem dX1_wholeNear_123 : decode cX1_wholeNear 123 = .ok (.lload 4, 2) := by decide +kernel
theorem dX1_wholeNear_125 : decode cX1_wholeNear 125 = .ok (.goto 10, 3) := by decide +kernel
theorem dX1_wholeNear_128 : decode cX1_wholeNear 128 = .ok (.lload 4, 2) := by decide +kernel
theorem dX1_wholeNear_130 : decode cX1_wholeNear 130 = .ok (.iload_n 2, 1) := by decide +kernel
theorem dX1_wholeNear_131 : decode cX1_wholeNear 131 = .ok (.iload_n 3, 1) := by decide +kernel
theorem dX1_wholeNear_132 : decode cX1_wholeNear 132 = .ok (.invokestatic 31, 3) := by decide +kernel
theorem dX1_wholeNear_135 : decode cX1_wholeNear 135 = .ok (.lreturn, 1) := by decide +kernel
set_option maxRecDepth 20000 in
theorem ggX1_nextWhole_X1_power : GoodIn wsX1_nextWhole wsX1_power := goodIn_r _ [4] (by decide +kernel) (by decide +kernel)
set_option maxRecDepth 20000 in
theorem gX1_nextWhole_X1_power : GoodIn wsX1_nextWhole (va_wsS RX1 23 yX1_power wsX1_power) := goodIn_app (goodIn_of _ (by decide +kernel)) ggX1_nextWhole_X1_power
theorem dX1_nextWhole_0 : decode cX1_nextWhole 0 = .ok (.lload_n 0, 1) := by decide +kernel
theorem dX1_nextWhole_1 : decode cX1_nextWhole 1 = .ok (.lconst 0, 1) := by decide +kernel
theorem dX1_nextWhole_2 : decode cX1_nextWhole 2 = .ok (.lcmp, 1) := by decide +kernel
theorem dX1_nextWhole_3 : decode cX1_nextWhole 3 = .ok (.ifCond .ne 8, 3) := by decide +kernel
theorem dX1_nextWhole_6 : decode cX1_nextWhole 6 = .ok (.iload_n 3, 1) := by decide +kernel
theorem dX1_nextWhole_7 : decode cX1_nextWhole 7 = .ok (.i2l, 1) := by decide +kernel
theorem dX1_nextWhole_8 : decode cX1_nextWhole 8 = .ok (.iload_n 2, 1) := by decide +kernel
theorem dX1_nextWhole_9 : decode cX1_nextWhole 9 = .ok (.lshl, 1) := by decide +kernel
theorem dX1_nextWhole_10 : decode cX1_nextWhole 10 = .ok (.lreturn, 1) := by decide +kernel
theorem dX1_nextWhole_11 : decode cX1_nextWhole 11 = .ok (.lload_n 0, 1) := by decide +kernel
theorem dX1_nextWhole_12 : decode cX1_nextWhole 12 = .ok (.lconst 1, 1) := by decide +kernel
theorem dX1_nextWhole_13 : decode cX1_nextWhole 13 = .ok (.iload_n 2, 1) := by decide +kernel
theorem dX1_nextWhole_14 : decode cX1_nextWhole 14 = .ok (.lload_n 0, 1) := by decide +kernel
theorem dX1_nextWhole_15 : decode cX1_nextWhole 15 = .ok (.iload_n 2, 1) := by decide +kernel
theorem dX1_nextWhole_16 : decode cX1_nextWhole 16 = .ok (.iload_n 3, 1) := by decide +kernel
theorem dX1_nextWhole_17 : decode cX1_nextWhole 17 = .ok (.invokestatic 23, 3) := by decide +kernel
theorem dX1_nextWhole_20 : decode cX1_nextWhole 20 = .ok (.isub, 1) := by decide +kernel
theorem dX1_nextWhole_21 : decode cX1_nextWhole 21 = .ok (.lshl, 1) := by decide +kernel
theorem dX1_nextWhole_22 : decode cX1_nextWhole 22 = .ok (.ladd, 1) := by decide +kernel
theorem dX1_nextWhole_23 : decode cX1_nextWhole 23 = .ok (.lreturn, 1) := by decide +kernel
theorem dX1_half_0 : decode cX1_half 0 = .ok (.lload_n 0, 1) := by decide +kernel
theorem dX1_half_1 : decode cX1_half 1 = .ok (.lload_n 3, 1) := by decide +kernel
theorem dX1_half_2 : decode cX1_half 2 = .ok (.lcmp, 1) := by decide +kernel
theorem dX1_half_3 : decode cX1_half 3 = .ok (.ifCond .ne 5, 3) := by decide +kernel
theorem dX1_half_6 : decode cX1_half 6 = .ok (.lload_n 0, 1) := by decide +kernel
theorem dX1_half_7 : decode cX1_half 7 = .ok (.lreturn, 1) := by decide +kernel
theorem dX1_half_8 : decode cX1_half 8 = .ok (.lconst 1, 1) := by decide +kernel
theorem dX1_half_9 : decode cX1_half 9 = .ok (.iload_n 2, 1) := by decide +kernel
theorem dX1_half_10 : decode cX1_half 10 = .ok (.lshl, 1) := by decide +kernel
theorem dX1_half_11 : decode cX1_half 11 = .ok (.lstore 5, 2) := by decide +kernel
theorem dX1_half_13 : decode cX1_half 13 = .ok (.lload_n 0, 1) := by decide +kernel
theorem dX1_half_14 : decode cX1_half 14 = .ok (.ldc2_w 34, 3) := by decide +kernel
theorem dX1_half_17 : decode cX1_half 17 = .ok (.lload 5, 2) := by decide +kernel
theorem dX1_half_19 : decode cX1_half 19 = .ok (.lmul, 1) := by decide +kernel
theorem dX1_half_20 : decode cX1_half 20 = .ok (.lcmp, 1) := by decide +kernel
theorem dX1_half_21 : decode cX1_half 21 = .ok (.ifCond .lt 8, 3) := by decide +kernel
theorem dX1_half_24 : decode cX1_half 24 = .ok (.lload_n 0, 1) := by decide +kernel
theorem dX1_half_25 : decode cX1_half 25 = .ok (.lload 5, 2) := by decide +kernel
theorem dX1_half_27 : decode cX1_half 27 = .ok (.lsub, 1) := by decide +kernel
theorem dX1_half_28 : decode cX1_half 28 = .ok (.lreturn, 1) := by decide +kernel
theorem dX1_half_29 : decode cX1_half 29 = .ok (.lload_n 0, 1) := by decide +kernel
theorem dX1_half_30 : decode cX1_half 30 = .ok (.iconst 1, 1) := by decide +kernel
theorem dX1_half_31 : decode cX1_half 31 = .ok (.lshr, 1) := by decide +kernel
theorem dX1_half_32 : decode cX1_half 32 = .ok (.lstore 7, 2) := by decide +kernel
theorem dX1_half_34 : decode cX1_half 34 = .ok (.lload_n 0, 1) := by decide +kernel
theorem dX1_half_35 : decode cX1_half 35 = .ok (.lconst 1, 1) := by decide +kernel
theorem dX1_half_36 : decode cX1_half 36 = .ok (.land, 1) := by decide +kernel
theorem dX1_half_37 : decode cX1_half 37 = .ok (.lconst 0, 1) := by decide +kernel
theorem dX1_half_38 : decode cX1_half 38 = .ok (.lcmp, 1) := by decide +kernel
theorem dX1_half_39 : decode cX1_half 39 = .ok (.ifCond .ne 8, 3) := by decide +kernel
theorem dX1_half_42 : decode cX1_half 42 = .ok (.lload 7, 2) := by decide +kernel
theorem dX1_half_44 : decode cX1_half 44 = .ok (.goto 10, 3) := by decide +kernel
theorem dX1_half_47 : decode cX1_half 47 = .ok (.lload 7, 2) := by decide +kernel
theorem dX1_half_49 : decode cX1_half 49 = .ok (.lload 7, 2) := by decide +kernel
theorem dX1_half_51 : decode cX1_half 51 = .ok (.lconst 1, 1) := by decide +kernel
theorem dX1_half_52 : decode cX1_half 52 = .ok (.land, 1) := by decide +kernel
theorem dX1_half_53 : decode cX1_half 53 = .ok (.ladd, 1) := by decide +kernel
theorem dX1_half_54 : decode cX1_half 54 = .ok (.lreturn, 1) := by decide +kernel
theorem dX1_twice_0 : decode cX1_twice 0 = .ok (.lload_n 0, 1) := by decide +kernel
theorem dX1_twice_1 : decode cX1_twice 1 = .ok (.lload_n 3, 1) := by decide +kernel
theorem dX1_twice_2 : decode cX1_twice 2 = .ok (.lcmp, 1) := by decide +kernel
theorem dX1_twice_3 : decode cX1_twice 3 = .ok (.ifCond .ne 5, 3) := by decide +kernel
theorem dX1_twice_6 : decode cX1_twice 6 = .ok (.lload_n 0, 1) := by decide +kernel
theorem dX1_twice_7 : decode cX1_twice 7 = .ok (.lreturn, 1) := by decide +kernel
theorem dX1_twice_8 : decode cX1_twice 8 = .ok (.lconst 1, 1) := by decide +kernel
theorem dX1_twice_9 : decode cX1_twice 9 = .ok (.iload_n 2, 1) := by decide +kernel
theorem dX1_twice_10 : decode cX1_twice 10 = .ok (.lshl, 1) := by decide +kernel
theorem dX1_twice_11 : decode cX1_twice 11 = .ok (.lstore 5, 2) := by decide +kernel
theorem dX1_twice_13 : decode cX1_twice 13 = .ok (.lload_n 0, 1) := by decide +kernel
theorem dX1_twice_14 : decode cX1_twice 14 = .ok (.lload 5, 2) := by decide +kernel
theorem dX1_twice_16 : decode cX1_twice 16 = .ok (.lcmp, 1) := by decide +kernel
theorem dX1_twice_17 : decode cX1_twice 17 = .ok (.ifCond .ge 7, 3) := by decide +kernel
theorem dX1_twice_20 : decode cX1_twice 20 = .ok (.lload_n 0, 1) := by decide +kernel
theorem dX1_twice_21 : decode cX1_twice 21 = .ok (.iconst 1, 1) := by decide +kernel
theorem dX1_twice_22 : decode cX1_twice 22 = .ok (.lshl, 1) := by decide +kernel
theorem dX1_twice_23 : decode cX1_twice 23 = .ok (.lreturn, 1) := by decide +kernel
theorem dX1_twice_24 : decode cX1_twice 24 = .ok (.lload_n 0, 1) := by decide +kernel
theorem dX1_twice_25 : decode cX1_twice 25 = .ok (.lload 5, 2) := by decide +kernel
theorem dX1_twice_27 : decode cX1_twice 27 = .ok (.ladd, 1) := by decide +kernel
theorem dX1_twice_28 : decode cX1_twice 28 = .ok (.lstore 7, 2) := by decide +kernel
theorem dX1_twice_30 : decode cX1_twice 30 = .ok (.lload 7, 2) := by decide +kernel
theorem dX1_twice_32 : decode cX1_twice 32 = .ok (.lload_n 3, 1) := by decide +kernel
theorem dX1_twice_33 : decode cX1_twice 33 = .ok (.lcmp, 1) := by decide +kernel
theorem dX1_twice_34 : decode cX1_twice 34 = .ok (.ifCond .le 7, 3) := by decide +kernel
theorem dX1_twice_37 : decode cX1_twice 37 = .ok (.lload_n 3, 1) := by decide +kernel
theorem dX1_twice_38 : decode cX1_twice 38 = .ok (.goto 5, 3) := by decide +kernel
theorem dX1_twice_41 : decode cX1_twice 41 = .ok (.lload 7, 2) := by decide +kernel
theorem dX1_twice_43 : decode cX1_twice 43 = .ok (.lreturn, 1) := by decide +kernel
set_option maxRecDepth 20000 in
theorem ggX2_init_X0_init : GoodIn wsX2_init wsX0_init := goodIn_r _ [26, 27, 2, 3, 6, 28, 29, 30, 31, 54, 55, 56, 57] (by decide +kernel) (by decide +kernel)
set_option maxRecDepth 20000 in
theorem gX2_init_X0_init_n49 : GoodIn wsX2_init (wsX0_init) := ggX2_init_X0_init
set_option maxRecDepth 20000 in
theorem ggX2_init_X2_stringAnew : GoodIn wsX2_init wsX2_stringAnew := goodIn_r _ [36, 13, 5, 7, 8, 9, 10, 37, 11, 38, 39, 40, 41, 42, 43, 44, 45, 46, 47, 48, 49, 50, 51, 52, 53] (by decide +kernel) (by decide +kernel)
set_option maxRecDepth 20000 in
theorem gX2_init_X2_stringAnew : GoodIn wsX2_init (wsV RX2 63 RX2 yX2_stringAnew wsX2_stringAnew) := goodIn_app (goodIn_of _ (by decide +kernel)) ggX2_init_X2_stringAnew
theorem dX2_init_0 : decode cX2_init 0 = .ok (.aload_n 0, 1) := by decide +kernel
theorem dX2_init_1 : decode cX2_init 1 = .ok (.invokespecial 1, 3) := by decide +kernel
theorem dX2_init_4 : decode cX2_init 4 = .ok (.aload_n 0, 1) := by decide +kernel
theorem dX2_init_5 : decode cX2_init 5 = .ok (.bipush 8, 2) := by decide +kernel
theorem dX2_init_7 : decode cX2_init 7 = .ok (.newarray .long, 2) := by decide +kernel
theorem dX2_init_9 : decode cX2_init 9 = .ok (.putfield 9, 3) := by decide +kernel
theorem dX2_init_12 : decode cX2_init 12 = .ok (.aload_n 0, 1) := by decide +kernel
theorem dX2_init_13 : decode cX2_init 13 = .ok (.bipush 8, 2) := by decide +kernel
theorem dX2_init_15 : decode cX2_init 15 = .ok (.newarray .int, 2) := by decide +kernel
theorem dX2_init_17 : decode cX2_init 17 = .ok (.putfield 13, 3) := by decide +kernel
theorem dX2_init_20 : decode cX2_init 20 = .ok (.aload_n 0, 1) := by decide +kernel
theorem dX2_init_21 : decode cX2_init 21 = .ok (.bipush 8, 2) := by decide +kernel
theorem dX2_init_23 : decode cX2_init 23 = .ok (.newarray .int, 2) := by decide +kernel
theorem dX2_init_25 : decode cX2_init 25 = .ok (.putfield 17, 3) := by decide +kernel
theorem dX2_init_28 : decode cX2_init 28 = .ok (.aload_n 0, 1) := by decide +kernel
theorem dX2_init_29 : decode cX2_init 29 = .ok (.bipush 8, 2) := by decide +kernel
theorem dX2_init_31 : decode cX2_init 31 = .ok (.newarray .long, 2) := by decide +kernel
theorem dX2_init_33 : decode cX2_init 33 = .ok (.putfield 20, 3) := by decide +kernel
theorem dX2_init_36 : decode cX2_init 36 = .ok (.aload_n 0, 1) := by decide +kernel
theorem dX2_init_37 : decode cX2_init 37 = .ok (.bipush 8, 2) := by decide +kernel
theorem dX2_init_39 : decode cX2_init 39 = .ok (.newarray .long, 2) := by decide +kernel
theorem dX2_init_41 : decode cX2_init 41 = .ok (.putfield 23, 3) := by decide +kernel
theorem dX2_init_44 : decode cX2_init 44 = .ok (.aload_n 0, 1) := by decide +kernel
theorem dX2_init_45 : decode cX2_init 45 = .ok (.bipush 8, 2) := by decide +kernel
theorem dX2_init_47 : decode cX2_init 47 = .ok (.newarray .long, 2) := by decide +kernel
theorem dX2_init_49 : decode cX2_init 49 = .ok (.putfield 26, 3) := by decide +kernel
theorem dX2_init_52 : decode cX2_init 52 = .ok (.aload_n 0, 1) := by decide +kernel
theorem dX2_init_53 : decode cX2_init 53 = .ok (.bipush 8, 2) := by decide +kernel
theorem dX2_init_55 : decode cX2_init 55 = .ok (.newarray .boolean, 2) := by decide +kernel
theorem dX2_init_57 : decode cX2_init 57 = .ok (.putfield 29, 3) := by decide +kernel
theorem dX2_init_60 : decode cX2_init 60 = .ok (.aload_n 0, 1) := by decide +kernel
theorem dX2_init_61 : decode cX2_init 61 = .ok (.lconst 0, 1) := by decide +kernel
theorem dX2_init_62 : decode cX2_init 62 = .ok (.putfield 33, 3) := by decide +kernel
theorem dX2_init_65 : decode cX2_init 65 = .ok (.aload_n 0, 1) := by decide +kernel
theorem dX2_init_66 : decode cX2_init 66 = .ok (.iconst 0, 1) := by decide +kernel
theorem dX2_init_67 : decode cX2_init 67 = .ok (.putfield 37, 3) := by decide +kernel
theorem dX2_init_70 : decode cX2_init 70 = .ok (.aload_n 0, 1) := by decide +kernel
theorem dX2_init_71 : decode cX2_init 71 = .ok (.iconst 0, 1) := by decide +kernel
theorem dX2_init_72 : decode cX2_init 72 = .ok (.putfield 41, 3) := by decide +kernel
theorem dX2_init_75 : decode cX2_init 75 = .ok (.aload_n 0, 1) := by decide +kernel
theorem dX2_init_76 : decode cX2_init 76 = .ok (.lconst 0, 1) := by decide +kernel
theorem dX2_init_77 : decode cX2_init 77 = .ok (.putfield 44, 3) := by decide +kernel
theorem dX2_init_80 : decode cX2_init 80 = .ok (.aload_n 0, 1) := by decide +kernel
theorem dX2_init_81 : decode cX2_init 81 = .ok (.new 47, 3) := by decide +kernel
theorem dX2_init_84 : decode cX2_init 84 = .ok (.dup, 1) := by decide +kernel
theorem dX2_init_85 : decode cX2_init 85 = .ok (.invokespecial 49, 3) := by decide +kernel
theorem dX2_init_88 : decode cX2_init 88 = .ok (.putfield 50, 3) := by decide +kernel
theorem dX2_init_91 : decode cX2_init 91 = .ok (.aload_n 0, 1) := by decide +kernel
theorem dX2_init_92 : decode cX2_init 92 = .ok (.iconst 0, 1) := by decide +kernel
theorem dX2_init_93 : decode cX2_init 93 = .ok (.putfield 54, 3) := by decide +kernel
theorem dX2_init_96 : decode cX2_init 96 = .ok (.aload_n 0, 1) := by decide +kernel
theorem dX2_init_97 : decode cX2_init 97 = .ok (.iconst 5, 1) := by decide +kernel
theorem dX2_init_98 : decode cX2_init 98 = .ok (.newarray .int, 2) := by decide +kernel
theorem dX2_init_100 : decode cX2_init 100 = .ok (.putfield 57, 3) := by decide +kernel
theorem dX2_init_103 : decode cX2_init 103 = .ok (.aload_n 0, 1) := by decide +kernel
theorem dX2_init_104 : decode cX2_init 104 = .ok (.iconst 5, 1) := by decide +kernel
theorem dX2_init_105 : decode cX2_init 105 = .ok (.newarray .int, 2) := by decide +kernel
theorem dX2_init_107 : decode cX2_init 107 = .ok (.putfield 60, 3) := by decide +kernel
theorem dX2_init_110 : decode cX2_init 110 = .ok (.iconst 0, 1) := by decide +kernel
theorem dX2_init_111 : decode cX2_init 111 = .ok (.istore_n 1, 1) := by decide +kernel
theorem dX2_init_112 : decode cX2_init 112 = .ok (.iload_n 1, 1) := by decide +kernel
theorem dX2_init_113 : decode cX2_init 113 = .ok (.bipush 8, 2) := by decide +kernel
theorem dX2_init_115 : decode cX2_init 115 = .ok (.if_icmp .ge 14, 3) := by decide +kernel
theorem dX2_init_118 : decode cX2_init 118 = .ok (.aload_n 0, 1) := by decide +kernel
theorem dX2_init_119 : decode cX2_init 119 = .ok (.iload_n 1, 1) := by decide +kernel
theorem dX2_init_120 : decode cX2_init 120 = .ok (.invokevirtual 63, 3) := by decide +kernel
theorem dX2_init_123 : decode cX2_init 123 = .ok (.iinc 1 1, 3) := by decide +kernel
theorem dX2_init_126 : decode cX2_init 126 = .ok (.goto (-14), 3) := by decide +kernel
theorem dX2_init_129 : decode cX2_init 129 = .ok (.return_, 1) := by decide +kernel
set_option maxRecDepth 20000 in
theorem ggX2_set_X2_refusalOfSetting : GoodIn wsX2_set wsX2_refusalOfSetting := goodIn_r _ [6, 7, 8, 9, 5, 10, 11, 12, 13, 14, 15, 16, 17, 18, 19, 20, 21, 22, 23, 24, 25, 26, 27, 28, 29, 40, 41, 42, 43, 44, 45, 46, 47, 48, 49, 50, 51, 52, 53, 54] (by decide +kernel) (by decide +kernel)
set_option maxRecDepth 20000 in
theorem gX2_set_X2_refusalOfSetting : GoodIn wsX2_set (wsV RX2 67 RX2 yX2_refusalOfSetting wsX2_refusalOfSetting) := goodIn_app (goodIn_of _ (by decide +kernel)) ggX2_set_X2_refusalOfSetting
set_option maxRecDepth 20000 in
theorem ggX2_set_X2_write : GoodIn wsX2_set wsX2_write := goodIn_r _ [33, 34, 35, 36, 37, 38, 39, 40, 41, 42, 43, 44, 45, 46, 47, 48, 49, 50, 51, 52, 53, 54] (by decide +kernel) (by decide +kernel)
set_option maxRecDepth 20000 in
theorem gX2_set_X2_write : GoodIn wsX2_set (wsV RX2 71 RX2 yX2_write wsX2_write) := goodIn_app (goodIn_of _ (by decide +kernel)) ggX2_set_X2_write
theorem dX2_set_0 : decode cX2_set 0 = .ok (.aload_n 0, 1) := by decide +kernel
theorem dX2_set_1 : decode cX2_set 1 = .ok (.aload_n 0, 1) := by decide +kernel
theorem dX2_set_2 : decode cX2_set 2 = .ok (.iload_n 1, 1) := by decide +kernel
theorem dX2_set_3 : decode cX2_set 3 = .ok (.iload_n 2, 1) := by decide +kernel
theorem dX2_set_4 : decode cX2_set 4 = .ok (.lload_n 3, 1) := by decide +kernel
theorem dX2_set_5 : decode cX2_set 5 = .ok (.invokevirtual 67, 3) := by decide +kernel
theorem dX2_set_8 : decode cX2_set 8 = .ok (.putfield 54, 3) := by decide +kernel
theorem dX2_set_11 : decode cX2_set 11 = .ok (.aload_n 0, 1) := by decide +kernel
theorem dX2_set_12 : decode cX2_set 12 = .ok (.getfield 54, 3) := by decide +kernel
theorem dX2_set_15 : decode cX2_set 15 = .ok (.ifCond .ne 10, 3) := by decide +kernel
theorem dX2_set_18 : decode cX2_set 18 = .ok (.aload_n 0, 1) := by decide +kernel
theorem dX2_set_19 : decode cX2_set 19 = .ok (.iload_n 1, 1) := by decide +kernel
theorem dX2_set_20 : decode cX2_set 20 = .ok (.iload_n 2, 1) := by decide +kernel
theorem dX2_set_21 : decode cX2_set 21 = .ok (.lload_n 3, 1) := by decide +kernel
theorem dX2_set_22 : decode cX2_set 22 = .ok (.invokevirtual 71, 3) := by decide +kernel
theorem dX2_set_25 : decode cX2_set 25 = .ok (.aload_n 0, 1) := by decide +kernel
theorem dX2_set_26 : decode cX2_set 26 = .ok (.getfield 54, 3) := by decide +kernel
theorem dX2_set_29 : decode cX2_set 29 = .ok (.ireturn, 1) := by decide +kernel
set_option maxRecDepth 20000 in
theorem ggX2_get_X2_refusalOfPart : GoodIn wsX2_get wsX2_refusalOfPart := goodIn_r _ [6, 7, 8, 9, 5, 10, 11, 22, 23, 24, 25, 26, 27, 28, 29, 30, 31, 32, 33, 34, 35, 36] (by decide +kernel) (by decide +kernel)
set_option maxRecDepth 20000 in
theorem gX2_get_X2_refusalOfPart : GoodIn wsX2_get (wsV RX2 75 RX2 yX2_refusalOfPart wsX2_refusalOfPart) := goodIn_app (goodIn_of _ (by decide +kernel)) ggX2_get_X2_refusalOfPart
set_option maxRecDepth 20000 in
theorem ggX2_get_X2_read : GoodIn wsX2_get wsX2_read := goodIn_r _ [15, 16, 17, 18, 19, 20, 21, 22, 23, 24, 25, 26, 27, 28, 29, 30, 31, 32, 33, 34, 35, 36] (by decide +kernel) (by decide +kernel)
set_option maxRecDepth 20000 in
theorem gX2_get_X2_read : GoodIn wsX2_get (wsV RX2 79 RX2 yX2_read wsX2_read) := goodIn_app (goodIn_of _ (by decide +kernel)) ggX2_get_X2_read
theorem dX2_get_0 : decode cX2_get 0 = .ok (.aload_n 0, 1) := by decide +kernel
theorem dX2_get_1 : decode cX2_get 1 = .ok (.aload_n 0, 1) := by decide +kernel
theorem dX2_get_2 : decode cX2_get 2 = .ok (.iload_n 1, 1) := by decide +kernel
theorem dX2_get_3 : decode cX2_get 3 = .ok (.iload_n 2, 1) := by decide +kernel
theorem dX2_get_4 : decode cX2_get 4 = .ok (.invokevirtual 75, 3) := by decide +kernel
theorem dX2_get_7 : decode cX2_get 7 = .ok (.putfield 54, 3) := by decide +kernel
theorem dX2_get_10 : decode cX2_get 10 = .ok (.aload_n 0, 1) := by decide +kernel
theorem dX2_get_11 : decode cX2_get 11 = .ok (.getfield 54, 3) := by decide +kernel
theorem dX2_get_14 : decode cX2_get 14 = .ok (.ifCond .ne 12, 3) := by decide +kernel
theorem dX2_get_17 : decode cX2_get 17 = .ok (.aload_n 0, 1) := by decide +kernel
theorem dX2_get_18 : decode cX2_get 18 = .ok (.iload_n 1, 1) := by decide +kernel
theorem dX2_get_19 : decode cX2_get 19 = .ok (.iload_n 2, 1) := by decide +kernel
theorem dX2_get_20 : decode cX2_get 20 = .ok (.invokevirtual 79, 3) := by decide +kernel
theorem dX2_get_23 : decode cX2_get 23 = .ok (.goto 4, 3) := by decide +kernel
theorem dX2_get_26 : decode cX2_get 26 = .ok (.lconst 0, 1) := by decide +kernel
theorem dX2_get_27 : decode cX2_get 27 = .ok (.lreturn, 1) := by decide +kernel
theorem dX2_refused_0 : decode cX2_refused 0 = .ok (.aload_n 0, 1) := by decide +kernel
theorem dX2_refused_1 : decode cX2_refused 1 = .ok (.getfield 54, 3) := by decide +kernel
theorem dX2_refused_4 : decode cX2_refused 4 = .ok (.ireturn, 1) := by decide +kernel
set_option maxRecDepth 20000 in
theorem ggX2_cut_X2_refusalOfThread : GoodIn wsX2_cut wsX2_refusalOfThread := goodIn_r _ [7, 2, 8, 9, 10, 11, 12, 13, 14, 15, 16, 17, 18, 19, 20, 21, 22] (by decide +kernel) (by decide +kernel)
set_option maxRecDepth 20000 in
theorem gX2_cut_X2_refusalOfThread : GoodIn wsX2_cut (wsV RX2 83 RX2 yX2_refusalOfThread wsX2_refusalOfThread) := goodIn_app (goodIn_of _ (by decide +kernel)) ggX2_cut_X2_refusalOfThread
theorem dX2_cut_0 : decode cX2_cut 0 = .ok (.aload_n 0, 1) := by decide +kernel
theorem dX2_cut_1 : decode cX2_cut 1 = .ok (.aload_n 0, 1) := by decide +kernel
theorem dX2_cut_2 : decode cX2_cut 2 = .ok (.iload_n 1, 1) := by decide +kernel
theorem dX2_cut_3 : decode cX2_cut 3 = .ok (.invokevirtual 83, 3) := by decide +kernel
theorem dX2_cut_6 : decode cX2_cut 6 = .ok (.putfield 54, 3) := by decide +kernel
theorem dX2_cut_9 : decode cX2_cut 9 = .ok (.aload_n 0, 1) := by decide +kernel
theorem dX2_cut_10 : decode cX2_cut 10 = .ok (.getfield 54, 3) := by decide +kernel
theorem dX2_cut_13 : decode cX2_cut 13 = .ok (.ifCond .ne 10, 3) := by decide +kernel
theorem dX2_cut_16 : decode cX2_cut 16 = .ok (.aload_n 0, 1) := by decide +kernel
theorem dX2_cut_17 : decode cX2_cut 17 = .ok (.getfield 29, 3) := by decide +kernel
theorem dX2_cut_20 : decode cX2_cut 20 = .ok (.iload_n 1, 1) := by decide +kernel
theorem dX2_cut_21 : decode cX2_cut 21 = .ok (.iconst 1, 1) := by decide +kernel
theorem dX2_cut_22 : decode cX2_cut 22 = .ok (.bastore, 1) := by decide +kernel
theorem dX2_cut_23 : decode cX2_cut 23 = .ok (.aload_n 0, 1) := by decide +kernel
theorem dX2_cut_24 : decode cX2_cut 24 = .ok (.getfield 54, 3) := by decide +kernel
theorem dX2_cut_27 : decode cX2_cut 27 = .ok (.ireturn, 1) := by decide +kernel
set_option maxRecDepth 20000 in
theorem ggX2_string_X2_refusalOfStringing : GoodIn wsX2_string wsX2_refusalOfStringing := goodIn_r _ [6, 7, 8, 9, 5, 10, 11, 24, 25, 26, 27, 28, 29, 30, 31, 32, 33, 34, 35, 36, 37, 38] (by decide +kernel) (by decide +kernel)
set_option maxRecDepth 20000 in
theorem gX2_string_X2_refusalOfStringing : GoodIn wsX2_string (wsV RX2 87 RX2 yX2_refusalOfStringing wsX2_refusalOfStringing) := goodIn_app (goodIn_of _ (by decide +kernel)) ggX2_string_X2_refusalOfStringing
set_option maxRecDepth 20000 in
theorem ggX2_string_X2_stringAnew : GoodIn wsX2_string wsX2_stringAnew := goodIn_r _ [15, 11, 16, 17, 18, 19, 20, 21, 22, 23, 24, 25, 26, 27, 28, 29, 30, 31, 32, 33, 34, 35, 36, 37, 38] (by decide +kernel) (by decide +kernel)
set_option maxRecDepth 20000 in
theorem gX2_string_X2_stringAnew : GoodIn wsX2_string (wsV RX2 63 RX2 yX2_stringAnew wsX2_stringAnew) := goodIn_app (goodIn_of _ (by decide +kernel)) ggX2_string_X2_stringAnew
theorem dX2_string_0 : decode cX2_string 0 = .ok (.aload_n 0, 1) := by decide +kernel
theorem dX2_string_1 : decode cX2_string 1 = .ok (.aload_n 0, 1) := by decide +kernel
theorem dX2_string_2 : decode cX2_string 2 = .ok (.iload_n 1, 1) := by decide +kernel
theorem dX2_string_3 : decode cX2_string 3 = .ok (.invokevirtual 87, 3) := by decide +kernel
theorem dX2_string_6 : decode cX2_string 6 = .ok (.putfield 54, 3) := by decide +kernel
theorem dX2_string_9 : decode cX2_string 9 = .ok (.aload_n 0, 1) := by decide +kernel
theorem dX2_string_10 : decode cX2_string 10 = .ok (.getfield 54, 3) := by decide +kernel
theorem dX2_string_13 : decode cX2_string 13 = .ok (.ifCond .ne 8, 3) := by decide +kernel
theorem dX2_string_16 : decode cX2_string 16 = .ok (.aload_n 0, 1) := by decide +kernel
theorem dX2_string_17 : decode cX2_string 17 = .ok (.iload_n 1, 1) := by decide +kernel
theorem dX2_string_18 : decode cX2_string 18 = .ok (.invokevirtual 63, 3) := by decide +kernel
theorem dX2_string_21 : decode cX2_string 21 = .ok (.aload_n 0, 1) := by decide +kernel
theorem dX2_string_22 : decode cX2_string 22 = .ok (.getfield 54, 3) := by decide +kernel
theorem dX2_string_25 : decode cX2_string 25 = .ok (.ireturn, 1) := by decide +kernel
set_option maxRecDepth 20000 in
theorem ggX2_move_X2_refusalOfMove : GoodIn wsX2_move wsX2_refusalOfMove := goodIn_r _ [7, 8, 9, 10, 6, 11, 12, 13, 14, 15, 195, 196, 197, 198, 199, 200, 201, 202, 203, 204, 205, 206, 207, 208, 209] (by decide +kernel) (by decide +kernel)
set_option maxRecDepth 20000 in
theorem gX2_move_X2_refusalOfMove : GoodIn wsX2_move (wsV RX2 90 RX2 yX2_refusalOfMove wsX2_refusalOfMove) := goodIn_app (goodIn_of _ (by decide +kernel)) ggX2_move_X2_refusalOfMove
set_option maxRecDepth 20000 in
theorem ggX2_move_X2_clearChanges : GoodIn wsX2_move wsX2_clearChanges := goodIn_r _ [19, 2, 195, 196, 197, 198, 199, 200, 201, 202, 203, 204, 205, 206, 207, 208, 209] (by decide +kernel) (by decide +kernel)
set_option maxRecDepth 20000 in
theorem gX2_move_X2_clearChanges : GoodIn wsX2_move (wsV RX2 94 RX2 yX2_clearChanges wsX2_clearChanges) := goodIn_app (goodIn_of _ (by decide +kernel)) ggX2_move_X2_clearChanges
set_option maxRecDepth 20000 in
theorem ggX2_move_X2_perform : GoodIn wsX2_move wsX2_perform := goodIn_r _ [23, 24, 25, 26, 27, 28, 6, 29, 30, 31, 32, 33, 34, 35, 36, 37, 38, 39, 40, 41, 42, 43, 44, 45, 46, 47, 2, 48, 49, 50, 51, 52, 53, 54, 55, 56, 57, 58, 59, 60, 61, 62, 63, 64, 65, 66, 67, 68, 69, 70, 71, 72, 73, 74, 75, 76, 77, 78, 79, 80, 81, 82, 83, 84, 85, 86, 87, 88, 89, 90, 91, 92, 93, 94, 95, 96, 97, 98, 99, 100, 101, 102, 103, 104, 105, 106, 107, 108, 109, 110, 111, 112, 113, 114, 115, 116, 117, 118, 119, 120, 121, 122, 123, 124, 125, 126, 127, 128, 129, 130, 131, 132, 133, 134, 135, 136, 137, 138, 139, 140, 141, 142, 143, 144, 145, 146, 147, 148, 149, 150, 151, 152, 153, 154, 155, 156, 157, 158, 159, 160, 161, 162, 163, 164, 165, 166, 167, 168, 169, 170, 171, 172, 173, 174, 175, 176, 177, 178, 179, 180, 181, 182, 183, 184, 185, 186, 187, 188, 189, 190, 191, 192, 193, 194, 195, 196, 197, 198, 199, 200, 201, 202, 203, 204, 205, 206, 207, 208, 209] (by decide +kernel) (by decide +kernel)
set_option maxRecDepth 20000 in
theorem gX2_move_X2_perform : GoodIn wsX2_move (wsV RX2 97 RX2 yX2_perform wsX2_perform) := goodIn_app (goodIn_of _ (by decide +kernel)) ggX2_move_X2_perform
theorem dX2_move_0 : decode cX2_move 0 = .ok (.aload_n 0, 1) := by decide +kernel
theorem dX2_move_1 : decode cX2_move 1 = .ok (.aload_n 0, 1) := by decide +kernel
theorem dX2_move_2 : decode cX2_move 2 = .ok (.iload_n 1, 1) := by decide +kernel
theorem dX2_move_3 : decode cX2_move 3 = .ok (.iload_n 2, 1) := by decide +kernel
theorem dX2_move_4 : decode cX2_move 4 = .ok (.iload_n 3, 1) := by decide +kernel
theorem dX2_move_5 : decode cX2_move 5 = .ok (.invokevirtual 90, 3) := by decide +kernel
theorem dX2_move_8 : decode cX2_move 8 = .ok (.putfield 54, 3) := by decide +kernel
theorem dX2_move_11 : decode cX2_move 11 = .ok (.aload_n 0, 1) := by decide +kernel
theorem dX2_move_12 : decode cX2_move 12 = .ok (.getfield 54, 3) := by decide +kernel
theorem dX2_move_15 : decode cX2_move 15 = .ok (.ifCond .eq 5, 3) := by decide +kernel
theorem dX2_move_18 : decode cX2_move 18 = .ok (.iconst (-1), 1) := by decide +kernel
theorem dX2_move_19 : decode cX2_move 19 = .ok (.ireturn, 1) := by decide +kernel
theorem dX2_move_20 : decode cX2_move 20 = .ok (.aload_n 0, 1) := by decide +kernel
theorem dX2_move_21 : decode cX2_move 21 = .ok (.invokevirtual 94, 3) := by decide +kernel
theorem dX2_move_24 : decode cX2_move 24 = .ok (.aload_n 0, 1) := by decide +kernel
theorem dX2_move_25 : decode cX2_move 25 = .ok (.iload_n 1, 1) := by decide +kernel
theorem dX2_move_26 : decode cX2_move 26 = .ok (.iload_n 2, 1) := by decide +kernel
theorem dX2_move_27 : decode cX2_move 27 = .ok (.iload_n 3, 1) := by decide +kernel
theorem dX2_move_28 : decode cX2_move 28 = .ok (.invokevirtual 97, 3) := by decide +kernel
theorem dX2_move_31 : decode cX2_move 31 = .ok (.aload_n 0, 1) := by decide +kernel
theorem dX2_move_32 : decode cX2_move 32 = .ok (.getfield 57, 3) := by decide +kernel
theorem dX2_move_35 : decode cX2_move 35 = .ok (.iconst 1, 1) := by decide +kernel
theorem dX2_move_36 : decode cX2_move 36 = .ok (.iaload, 1) := by decide +kernel
theorem dX2_move_37 : decode cX2_move 37 = .ok (.aload_n 0, 1) := by decide +kernel
theorem dX2_move_38 : decode cX2_move 38 = .ok (.getfield 57, 3) := by decide +kernel
theorem dX2_move_41 : decode cX2_move 41 = .ok (.iconst 2, 1) := by decide +kernel
theorem dX2_move_42 : decode cX2_move 42 = .ok (.iaload, 1) := by decide +kernel
theorem dX2_move_43 : decode cX2_move 43 = .ok (.iadd, 1) := by decide +kernel
theorem dX2_move_44 : decode cX2_move 44 = .ok (.aload_n 0, 1) := by decide +kernel
theorem dX2_move_45 : decode cX2_move 45 = .ok (.getfield 57, 3) := by decide +kernel
theorem dX2_move_48 : decode cX2_move 48 = .ok (.iconst 3, 1) := by decide +kernel
theorem dX2_move_49 : decode cX2_move 49 = .ok (.iaload, 1) := by decide +kernel
theorem dX2_move_50 : decode cX2_move 50 = .ok (.iadd, 1) := by decide +kernel
theorem dX2_move_51 : decode cX2_move 51 = .ok (.aload_n 0, 1) := by decide +kernel
theorem dX2_move_52 : decode cX2_move 52 = .ok (.getfield 57, 3) := by decide +kernel
theorem dX2_move_55 : decode cX2_move 55 = .ok (.iconst 4, 1) := by decide +kernel
theorem dX2_move_56 : decode cX2_move 56 = .ok (.iaload, 1) := by decide +kernel
theorem dX2_move_57 : decode cX2_move 57 = .ok (.iadd, 1) := by decide +kernel
theorem dX2_move_58 : decode cX2_move 58 = .ok (.ireturn, 1) := by decide +kernel
theorem dX2_step_0 : decode cX2_step 0 = .ok (.aload_n 0, 1) := by decide +kernel
theorem dX2_step_1 : decode cX2_step 1 = .ok (.getfield 50, 3) := by decide +kernel
theorem dX2_step_4 : decode cX2_step 4 = .ok (.getfield 101, 3) := by decide +kernel
theorem dX2_step_7 : decode cX2_step 7 = .ok (.istore 4, 2) := by decide +kernel
theorem dX2_step_9 : decode cX2_step 9 = .ok (.iload 4, 2) := by decide +kernel
theorem dX2_step_11 : decode cX2_step 11 = .ok (.ifCond .lt 10, 3) := by decide +kernel
theorem dX2_step_14 : decode cX2_step 14 = .ok (.iload 4, 2) := by decide +kernel
theorem dX2_step_16 : decode cX2_step 16 = .ok (.bipush 40, 2) := by decide +kernel
theorem dX2_step_18 : decode cX2_step 18 = .ok (.if_icmp .lt 5, 3) := by decide +kernel
theorem dX2_step_21 : decode cX2_step 21 = .ok (.iconst (-1), 1) := by decide +kernel
theorem dX2_step_22 : decode cX2_step 22 = .ok (.ireturn, 1) := by decide +kernel
theorem dX2_step_23 : decode cX2_step 23 = .ok (.aload_n 0, 1) := by decide +kernel
theorem dX2_step_24 : decode cX2_step 24 = .ok (.getfield 50, 3) := by decide +kernel
theorem dX2_step_27 : decode cX2_step 27 = .ok (.getfield 104, 3) := by decide +kernel
theorem dX2_step_30 : decode cX2_step 30 = .ok (.iload 4, 2) := by decide +kernel
theorem dX2_step_32 : decode cX2_step 32 = .ok (.iload_n 1, 1) := by decide +kernel
theorem dX2_step_33 : decode cX2_step 33 = .ok (.iastore, 1) := by decide +kernel
theorem dX2_step_34 : decode cX2_step 34 = .ok (.aload_n 0, 1) := by decide +kernel
theorem dX2_step_35 : decode cX2_step 35 = .ok (.getfield 50, 3) := by decide +kernel
theorem dX2_step_38 : decode cX2_step 38 = .ok (.getfield 107, 3) := by decide +kernel
theorem dX2_step_41 : decode cX2_step 41 = .ok (.iload 4, 2) := by decide +kernel
theorem dX2_step_43 : decode cX2_step 43 = .ok (.iload_n 2, 1) := by decide +kernel
theorem dX2_step_44 : decode cX2_step 44 = .ok (.iastore, 1) := by decide +kernel
theorem dX2_step_45 : decode cX2_step 45 = .ok (.aload_n 0, 1) := by decide +kernel
theorem dX2_step_46 : decode cX2_step 46 = .ok (.getfield 50, 3) := by decide +kernel
theorem dX2_step_49 : decode cX2_step 49 = .ok (.getfield 110, 3) := by decide +kernel
theorem dX2_step_52 : decode cX2_step 52 = .ok (.iload 4, 2) := by decide +kernel
theorem dX2_step_54 : decode cX2_step 54 = .ok (.iload_n 3, 1) := by decide +kernel
theorem dX2_step_55 : decode cX2_step 55 = .ok (.iastore, 1) := by decide +kernel
theorem dX2_step_56 : decode cX2_step 56 = .ok (.aload_n 0, 1) := by decide +kernel
theorem dX2_step_57 : decode cX2_step 57 = .ok (.getfield 50, 3) := by decide +kernel
theorem dX2_step_60 : decode cX2_step 60 = .ok (.iload 4, 2) := by decide +kernel
theorem dX2_step_62 : decode cX2_step 62 = .ok (.iconst 1, 1) := by decide +kernel
theorem dX2_step_63 : decode cX2_step 63 = .ok (.iadd, 1) := by decide +kernel
theorem dX2_step_64 : decode cX2_step 64 = .ok (.putfield 101, 3) := by decide +kernel
theorem dX2_step_67 : decode cX2_step 67 = .ok (.aload_n 0, 1) := by decide +kernel
theorem dX2_step_68 : decode cX2_step 68 = .ok (.getfield 50, 3) := by decide +kernel
theorem dX2_step_71 : decode cX2_step 71 = .ok (.getfield 101, 3) := by decide +kernel
theorem dX2_step_74 : decode cX2_step 74 = .ok (.ireturn, 1) := by decide +kernel
theorem dX2_forget_0 : decode cX2_forget 0 = .ok (.aload_n 0, 1) := by decide +kernel
theorem dX2_forget_1 : decode cX2_forget 1 = .ok (.getfield 50, 3) := by decide +kernel
theorem dX2_forget_4 : decode cX2_forget 4 = .ok (.getfield 101, 3) := by decide +kernel
theorem dX2_forget_7 : decode cX2_forget 7 = .ok (.istore_n 1, 1) := by decide +kernel
theorem dX2_forget_8 : decode cX2_forget 8 = .ok (.aload_n 0, 1) := by decide +kernel
theorem dX2_forget_9 : decode cX2_forget 9 = .ok (.getfield 50, 3) := by decide +kernel
theorem dX2_forget_12 : decode cX2_forget 12 = .ok (.iconst 0, 1) := by decide +kernel
theorem dX2_forget_13 : decode cX2_forget 13 = .ok (.putfield 101, 3) := by decide +kernel
theorem dX2_forget_16 : decode cX2_forget 16 = .ok (.iload_n 1, 1) := by decide +kernel
theorem dX2_forget_17 : decode cX2_forget 17 = .ok (.ireturn, 1) := by decide +kernel
set_option maxRecDepth 20000 in
theorem ggX2_dance_X2_clearChanges : GoodIn wsX2_dance wsX2_clearChanges := goodIn_r _ [6, 7, 209, 210, 211, 212, 213, 214, 215, 216, 217, 218, 219, 220, 221, 222, 223] (by decide +kernel) (by decide +kernel)
set_option maxRecDepth 20000 in
theorem gX2_dance_X2_clearChanges : GoodIn wsX2_dance (wsV RX2 94 RX2 yX2_clearChanges wsX2_clearChanges) := goodIn_app (goodIn_of _ (by decide +kernel)) ggX2_dance_X2_clearChanges
set_option maxRecDepth 20000 in
theorem ggX2_dance_X2_danceOnce : GoodIn wsX2_dance wsX2_danceOnce := goodIn_r _ [11, 12, 13, 14, 15, 16, 1, 17, 18, 19, 5, 20, 21, 22, 23, 24, 25, 26, 27, 28, 29, 30, 31, 32, 33, 34, 35, 36, 37, 38, 39, 40, 41, 42, 43, 44, 45, 46, 47, 48, 49, 50, 51, 52, 53, 54, 55, 56, 7, 57, 58, 59, 60, 61, 62, 63, 64, 65, 66, 67, 68, 69, 70, 71, 72, 73, 74, 75, 76, 77, 78, 79, 80, 81, 82, 83, 84, 85, 86, 87, 88, 89, 90, 91, 92, 93, 94, 95, 96, 97, 98, 99, 100, 101, 102, 103, 104, 105, 106, 107, 108, 109, 110, 111, 112, 113, 114, 115, 116, 117, 118, 119, 120, 121, 122, 123, 124, 125, 126, 127, 128, 129, 130, 131, 132, 133, 134, 135, 136, 137, 138, 139, 140, 141, 142, 143, 144, 145, 146, 147, 148, 149, 150, 151, 152, 153, 154, 155, 156, 157, 158, 159, 160, 161, 162, 163, 164, 165, 166, 167, 168, 169, 170, 171, 172, 173, 174, 175, 176, 177, 178, 179, 180, 181, 182, 183, 184, 185, 186, 187, 188, 189, 190, 191, 192, 193, 194, 195, 196, 197, 198, 199, 200, 201, 202, 203, 209, 210, 211, 212, 213, 214, 215, 216, 217, 218, 219, 220, 221, 222, 223, 224, 225, 226, 227] (by decide +kernel) (by decide +kernel)
set_option maxRecDepth 20000 in
theorem gX2_dance_X2_danceOnce : GoodIn wsX2_dance (wsV RX2 113 RX2 yX2_danceOnce wsX2_danceOnce) := goodIn_app (goodIn_of _ (by decide +kernel)) ggX2_dance_X2_danceOnce
set_option maxRecDepth 20000 in
theorem ggX2_dance_X2_keepDance : GoodIn wsX2_dance wsX2_keepDance := goodIn_r _ [207, 208, 7, 209, 210, 211, 212, 213, 214, 215, 216, 217, 218, 219, 220, 221, 222, 223] (by decide +kernel) (by decide +kernel)
set_option maxRecDepth 20000 in
theorem gX2_dance_X2_keepDance : GoodIn wsX2_dance (wsV RX2 117 RX2 yX2_keepDance wsX2_keepDance) := goodIn_app (goodIn_of _ (by decide +kernel)) ggX2_dance_X2_keepDance
theorem dX2_dance_0 : decode cX2_dance 0 = .ok (.aload_n 0, 1) := by decide +kernel
theorem dX2_dance_1 : decode cX2_dance 1 = .ok (.iconst 0, 1) := by decide +kernel
theorem dX2_dance_2 : decode cX2_dance 2 = .ok (.putfield 54, 3) := by decide +kernel
theorem dX2_dance_5 : decode cX2_dance 5 = .ok (.iload_n 1, 1) := by decide +kernel
theorem dX2_dance_6 : decode cX2_dance 6 = .ok (.ifCond .lt 9, 3) := by decide +kernel
theorem dX2_dance_9 : decode cX2_dance 9 = .ok (.iload_n 1, 1) := by decide +kernel
theorem dX2_dance_10 : decode cX2_dance 10 = .ok (.bipush 50, 2) := by decide +kernel
theorem dX2_dance_12 : decode cX2_dance 12 = .ok (.if_icmp .le 5, 3) := by decide +kernel
theorem dX2_dance_15 : decode cX2_dance 15 = .ok (.iconst (-1), 1) := by decide +kernel
theorem dX2_dance_16 : decode cX2_dance 16 = .ok (.ireturn, 1) := by decide +kernel
theorem dX2_dance_17 : decode cX2_dance 17 = .ok (.aload_n 0, 1) := by decide +kernel
theorem dX2_dance_18 : decode cX2_dance 18 = .ok (.invokevirtual 94, 3) := by decide +kernel
theorem dX2_dance_21 : decode cX2_dance 21 = .ok (.iconst 0, 1) := by decide +kernel
theorem dX2_dance_22 : decode cX2_dance 22 = .ok (.istore_n 2, 1) := by decide +kernel
theorem dX2_dance_23 : decode cX2_dance 23 = .ok (.iconst (-1), 1) := by decide +kernel
theorem dX2_dance_24 : decode cX2_dance 24 = .ok (.istore_n 3, 1) := by decide +kernel
theorem dX2_dance_25 : decode cX2_dance 25 = .ok (.iconst 0, 1) := by decide +kernel
theorem dX2_dance_26 : decode cX2_dance 26 = .ok (.istore 4, 2) := by decide +kernel
theorem dX2_dance_28 : decode cX2_dance 28 = .ok (.iload 4, 2) := by decide +kernel
theorem dX2_dance_30 : decode cX2_dance 30 = .ok (.iload_n 1, 1) := by decide +kernel
theorem dX2_dance_31 : decode cX2_dance 31 = .ok (.if_icmp .ge 35, 3) := by decide +kernel
theorem dX2_dance_34 : decode cX2_dance 34 = .ok (.iload_n 3, 1) := by decide +kernel
theorem dX2_dance_35 : decode cX2_dance 35 = .ok (.iconst (-1), 1) := by decide +kernel
theorem dX2_dance_36 : decode cX2_dance 36 = .ok (.if_icmp .ne 30, 3) := by decide +kernel
theorem dX2_dance_39 : decode cX2_dance 39 = .ok (.aload_n 0, 1) := by decide +kernel
theorem dX2_dance_40 : decode cX2_dance 40 = .ok (.invokevirtual 113, 3) := by decide +kernel
theorem dX2_dance_43 : decode cX2_dance 43 = .ok (.istore 5, 2) := by decide +kernel
theorem dX2_dance_45 : decode cX2_dance 45 = .ok (.iload_n 2, 1) := by decide +kernel
theorem dX2_dance_46 : decode cX2_dance 46 = .ok (.iload 5, 2) := by decide +kernel
theorem dX2_dance_48 : decode cX2_dance 48 = .ok (.iadd, 1) := by decide +kernel
theorem dX2_dance_49 : decode cX2_dance 49 = .ok (.istore_n 2, 1) := by decide +kernel
theorem dX2_dance_50 : decode cX2_dance 50 = .ok (.aload_n 0, 1) := by decide +kernel
theorem dX2_dance_51 : decode cX2_dance 51 = .ok (.getfield 54, 3) := by decide +kernel
theorem dX2_dance_54 : decode cX2_dance 54 = .ok (.ifCond .eq 6, 3) := by decide +kernel
theorem dX2_dance_57 : decode cX2_dance 57 = .ok (.iload 5, 2) := by decide +kernel
theorem dX2_dance_59 : decode cX2_dance 59 = .ok (.istore_n 3, 1) := by decide +kernel
theorem dX2_dance_60 : decode cX2_dance 60 = .ok (.iinc 4 1, 3) := by decide +kernel
theorem dX2_dance_63 : decode cX2_dance 63 = .ok (.goto (-35), 3) := by decide +kernel
theorem dX2_dance_66 : decode cX2_dance 66 = .ok (.aload_n 0, 1) := by decide +kernel
theorem dX2_dance_67 : decode cX2_dance 67 = .ok (.iload_n 3, 1) := by decide +kernel
theorem dX2_dance_68 : decode cX2_dance 68 = .ok (.invokevirtual 117, 3) := by decide +kernel
theorem dX2_dance_71 : decode cX2_dance 71 = .ok (.iload_n 2, 1) := by decide +kernel
theorem dX2_dance_72 : decode cX2_dance 72 = .ok (.ireturn, 1) := by decide +kernel
theorem dX2_danced_0 : decode cX2_danced 0 = .ok (.iload_n 1, 1) := by decide +kernel
theorem dX2_danced_1 : decode cX2_danced 1 = .ok (.ifCond .lt 17, 3) := by decide +kernel
theorem dX2_danced_4 : decode cX2_danced 4 = .ok (.iload_n 1, 1) := by decide +kernel
theorem dX2_danced_5 : decode cX2_danced 5 = .ok (.iconst 5, 1) := by decide +kernel
theorem dX2_danced_6 : decode cX2_danced 6 = .ok (.if_icmp .ge 12, 3) := by decide +kernel
theorem dX2_danced_9 : decode cX2_danced 9 = .ok (.aload_n 0, 1) := by decide +kernel
theorem dX2_danced_10 : decode cX2_danced 10 = .ok (.getfield 60, 3) := by decide +kernel
theorem dX2_danced_13 : decode cX2_danced 13 = .ok (.iload_n 1, 1) := by decide +kernel
theorem dX2_danced_14 : decode cX2_danced 14 = .ok (.iaload, 1) := by decide +kernel
theorem dX2_danced_15 : decode cX2_danced 15 = .ok (.goto 4, 3) := by decide +kernel
theorem dX2_danced_18 : decode cX2_danced 18 = .ok (.iconst (-1), 1) := by decide +kernel
theorem dX2_danced_19 : decode cX2_danced 19 = .ok (.ireturn, 1) := by decide +kernel
theorem dX2_bar_0 : decode cX2_bar 0 = .ok (.iload_n 1, 1) := by decide +kernel
theorem dX2_bar_1 : decode cX2_bar 1 = .ok (.tableswitch 53 0 3 #[31, 36, 42, 48], 31) := by decide +kernel
theorem dX2_bar_32 : decode cX2_bar 32 = .ok (.aload_n 0, 1) := by decide +kernel
theorem dX2_bar_33 : decode cX2_bar 33 = .ok (.getfield 33, 3) := by decide +kernel
theorem dX2_bar_36 : decode cX2_bar 36 = .ok (.lreturn, 1) := by decide +kernel
theorem dX2_bar_37 : decode cX2_bar 37 = .ok (.aload_n 0, 1) := by decide +kernel
theorem dX2_bar_38 : decode cX2_bar 38 = .ok (.getfield 37, 3) := by decide +kernel
theorem dX2_bar_41 : decode cX2_bar 41 = .ok (.i2l, 1) := by decide +kernel
theorem dX2_bar_42 : decode cX2_bar 42 = .ok (.lreturn, 1) := by decide +kernel
theorem dX2_bar_43 : decode cX2_bar 43 = .ok (.aload_n 0, 1) := by decide +kernel
theorem dX2_bar_44 : decode cX2_bar 44 = .ok (.getfield 41, 3) := by decide +kernel
theorem dX2_bar_47 : decode cX2_bar 47 = .ok (.i2l, 1) := by decide +kernel
theorem dX2_bar_48 : decode cX2_bar 48 = .ok (.lreturn, 1) := by decide +kernel
theorem dX2_bar_49 : decode cX2_bar 49 = .ok (.aload_n 0, 1) := by decide +kernel
theorem dX2_bar_50 : decode cX2_bar 50 = .ok (.getfield 44, 3) := by decide +kernel
theorem dX2_bar_53 : decode cX2_bar 53 = .ok (.lreturn, 1) := by decide +kernel
theorem dX2_bar_54 : decode cX2_bar 54 = .ok (.lconst 0, 1) := by decide +kernel
theorem dX2_bar_55 : decode cX2_bar 55 = .ok (.lreturn, 1) := by decide +kernel
set_option maxRecDepth 20000 in
theorem ggX2_order_X2_placeOf : GoodIn wsX2_order wsX2_placeOf := goodIn_r _ [5, 6, 7, 8, 4, 9, 10, 11, 12, 13, 14, 15, 16, 17, 18, 19, 20, 21, 22, 23, 24, 25, 26, 27, 28, 29, 30, 31, 32, 33, 34, 35, 36, 37, 38, 39, 40, 41, 42, 43, 44, 45, 46, 47, 48, 49, 50] (by decide +kernel) (by decide +kernel)
set_option maxRecDepth 20000 in
theorem gX2_order_X2_placeOf : GoodIn wsX2_order (wsV RX2 120 RX2 yX2_placeOf wsX2_placeOf) := goodIn_app (goodIn_of _ (by decide +kernel)) ggX2_order_X2_placeOf
theorem dX2_order_0 : decode cX2_order 0 = .ok (.iconst 0, 1) := by decide +kernel
theorem dX2_order_1 : decode cX2_order 1 = .ok (.istore_n 2, 1) := by decide +kernel
theorem dX2_order_2 : decode cX2_order 2 = .ok (.iload_n 2, 1) := by decide +kernel
theorem dX2_order_3 : decode cX2_order 3 = .ok (.bipush 8, 2) := by decide +kernel
theorem dX2_order_5 : decode cX2_order 5 = .ok (.if_icmp .ge 20, 3) := by decide +kernel
theorem dX2_order_8 : decode cX2_order 8 = .ok (.aload_n 0, 1) := by decide +kernel
theorem dX2_order_9 : decode cX2_order 9 = .ok (.iload_n 2, 1) := by decide +kernel
theorem dX2_order_10 : decode cX2_order 10 = .ok (.invokevirtual 120, 3) := by decide +kernel
theorem dX2_order_13 : decode cX2_order 13 = .ok (.iload_n 1, 1) := by decide +kernel
theorem dX2_order_14 : decode cX2_order 14 = .ok (.if_icmp .ne 5, 3) := by decide +kernel
theorem dX2_order_17 : decode cX2_order 17 = .ok (.iload_n 2, 1) := by decide +kernel
theorem dX2_order_18 : decode cX2_order 18 = .ok (.ireturn, 1) := by decide +kernel
theorem dX2_order_19 : decode cX2_order 19 = .ok (.iinc 2 1, 3) := by decide +kernel
theorem dX2_order_22 : decode cX2_order 22 = .ok (.goto (-20), 3) := by decide +kernel
theorem dX2_order_25 : decode cX2_order 25 = .ok (.iconst (-1), 1) := by decide +kernel
theorem dX2_order_26 : decode cX2_order 26 = .ok (.ireturn, 1) := by decide +kernel
theorem dX2_refusalOfThread_0 : decode cX2_refusalOfThread 0 = .ok (.iload_n 1, 1) := by decide +kernel
theorem dX2_refusalOfThread_1 : decode cX2_refusalOfThread 1 = .ok (.ifCond .lt 9, 3) := by decide +kernel
theorem dX2_refusalOfThread_4 : decode cX2_refusalOfThread 4 = .ok (.iload_n 1, 1) := by decide +kernel
theorem dX2_refusalOfThread_5 : decode cX2_refusalOfThread 5 = .ok (.bipush 8, 2) := by decide +kernel
theorem dX2_refusalOfThread_7 : decode cX2_refusalOfThread 7 = .ok (.if_icmp .lt 5, 3) := by decide +kernel
theorem dX2_refusalOfThread_10 : decode cX2_refusalOfThread 10 = .ok (.iconst 1, 1) := by decide +kernel
theorem dX2_refusalOfThread_11 : decode cX2_refusalOfThread 11 = .ok (.ireturn, 1) := by decide +kernel
theorem dX2_refusalOfThread_12 : decode cX2_refusalOfThread 12 = .ok (.aload_n 0, 1) := by decide +kernel
theorem dX2_refusalOfThread_13 : decode cX2_refusalOfThread 13 = .ok (.getfield 29, 3) := by decide +kernel
theorem dX2_refusalOfThread_16 : decode cX2_refusalOfThread 16 = .ok (.iload_n 1, 1) := by decide +kernel
theorem dX2_refusalOfThread_17 : decode cX2_refusalOfThread 17 = .ok (.baload, 1) := by decide +kernel
theorem dX2_refusalOfThread_18 : decode cX2_refusalOfThread 18 = .ok (.ifCond .eq 7, 3) := by decide +kernel
theorem dX2_refusalOfThread_21 : decode cX2_refusalOfThread 21 = .ok (.iconst 2, 1) := by decide +kernel
theorem dX2_refusalOfThread_22 : decode cX2_refusalOfThread 22 = .ok (.goto 4, 3) := by decide +kernel
theorem dX2_refusalOfThread_25 : decode cX2_refusalOfThread 25 = .ok (.iconst 0, 1) := by decide +kernel
theorem dX2_refusalOfThread_26 : decode cX2_refusalOfThread 26 = .ok (.ireturn, 1) := by decide +kernel
set_option maxRecDepth 20000 in
theorem ggX2_refusalOfPart_X2_refusalOfThread : GoodIn wsX2_refusalOfPart wsX2_refusalOfThread := goodIn_r _ [5, 6, 7, 8, 9, 10, 11, 12, 13, 14, 15, 16, 17, 18, 19, 20, 21] (by decide +kernel) (by decide +kernel)
set_option maxRecDepth 20000 in
theorem gX2_refusalOfPart_X2_refusalOfThread : GoodIn wsX2_refusalOfPart (wsV RX2 83 RX2 yX2_refusalOfThread wsX2_refusalOfThread) := goodIn_app (goodIn_of _ (by decide +kernel)) ggX2_refusalOfPart_X2_refusalOfThread
theorem dX2_refusalOfPart_0 : decode cX2_refusalOfPart 0 = .ok (.iload_n 2, 1) := by decide +kernel
theorem dX2_refusalOfPart_1 : decode cX2_refusalOfPart 1 = .ok (.ifCond .lt 8, 3) := by decide +kernel
theorem dX2_refusalOfPart_4 : decode cX2_refusalOfPart 4 = .ok (.iload_n 2, 1) := by decide +kernel
theorem dX2_refusalOfPart_5 : decode cX2_refusalOfPart 5 = .ok (.iconst 5, 1) := by decide +kernel
theorem dX2_refusalOfPart_6 : decode cX2_refusalOfPart 6 = .ok (.if_icmp .le 7, 3) := by decide +kernel
theorem dX2_refusalOfPart_9 : decode cX2_refusalOfPart 9 = .ok (.iconst 5, 1) := by decide +kernel
theorem dX2_refusalOfPart_10 : decode cX2_refusalOfPart 10 = .ok (.goto 8, 3) := by decide +kernel
theorem dX2_refusalOfPart_13 : decode cX2_refusalOfPart 13 = .ok (.aload_n 0, 1) := by decide +kernel
theorem dX2_refusalOfPart_14 : decode cX2_refusalOfPart 14 = .ok (.iload_n 1, 1) := by decide +kernel
theorem dX2_refusalOfPart_15 : decode cX2_refusalOfPart 15 = .ok (.invokevirtual 83, 3) := by decide +kernel
theorem dX2_refusalOfPart_18 : decode cX2_refusalOfPart 18 = .ok (.ireturn, 1) := by decide +kernel
set_option maxRecDepth 20000 in
theorem ggX2_refusalOfSetting_X2_refusalOfPart : GoodIn wsX2_refusalOfSetting wsX2_refusalOfPart := goodIn_r _ [5, 6, 7, 8, 4, 9, 10, 25, 26, 27, 28, 29, 30, 31, 32, 33, 34, 35, 36, 37, 38, 39] (by decide +kernel) (by decide +kernel)
set_option maxRecDepth 20000 in
theorem gX2_refusalOfSetting_X2_refusalOfPart : GoodIn wsX2_refusalOfSetting (wsV RX2 75 RX2 yX2_refusalOfPart wsX2_refusalOfPart) := goodIn_app (goodIn_of _ (by decide +kernel)) ggX2_refusalOfSetting_X2_refusalOfPart
set_option maxRecDepth 20000 in
theorem ggX2_refusalOfSetting_X2_isNumber : GoodIn wsX2_refusalOfSetting wsX2_isNumber := goodIn_r _ [13, 14, 15, 16, 17, 18, 19, 20, 21, 22, 23, 24] (by decide +kernel) (by decide +kernel)
set_option maxRecDepth 20000 in
theorem gX2_refusalOfSetting_X2_isNumber : GoodIn wsX2_refusalOfSetting (va_wsS RX2 123 yX2_isNumber wsX2_isNumber) := goodIn_app (goodIn_of _ (by decide +kernel)) ggX2_refusalOfSetting_X2_isNumber
theorem dX2_refusalOfSetting_0 : decode cX2_refusalOfSetting 0 = .ok (.aload_n 0, 1) := by decide +kernel
theorem dX2_refusalOfSetting_1 : decode cX2_refusalOfSetting 1 = .ok (.iload_n 1, 1) := by decide +kernel
theorem dX2_refusalOfSetting_2 : decode cX2_refusalOfSetting 2 = .ok (.iload_n 2, 1) := by decide +kernel
theorem dX2_refusalOfSetting_3 : decode cX2_refusalOfSetting 3 = .ok (.invokevirtual 75, 3) := by decide +kernel
theorem dX2_refusalOfSetting_6 : decode cX2_refusalOfSetting 6 = .ok (.istore 5, 2) := by decide +kernel
theorem dX2_refusalOfSetting_8 : decode cX2_refusalOfSetting 8 = .ok (.iload 5, 2) := by decide +kernel
theorem dX2_refusalOfSetting_10 : decode cX2_refusalOfSetting 10 = .ok (.ifCond .eq 6, 3) := by decide +kernel
theorem dX2_refusalOfSetting_13 : decode cX2_refusalOfSetting 13 = .ok (.iload 5, 2) := by decide +kernel
theorem dX2_refusalOfSetting_15 : decode cX2_refusalOfSetting 15 = .ok (.ireturn, 1) := by decide +kernel
theorem dX2_refusalOfSetting_16 : decode cX2_refusalOfSetting 16 = .ok (.iload_n 2, 1) := by decide +kernel
theorem dX2_refusalOfSetting_17 : decode cX2_refusalOfSetting 17 = .ok (.lload_n 3, 1) := by decide +kernel
theorem dX2_refusalOfSetting_18 : decode cX2_refusalOfSetting 18 = .ok (.invokestatic 123, 3) := by decide +kernel
theorem dX2_refusalOfSetting_21 : decode cX2_refusalOfSetting 21 = .ok (.ifCond .eq 7, 3) := by decide +kernel
theorem dX2_refusalOfSetting_24 : decode cX2_refusalOfSetting 24 = .ok (.iconst 0, 1) := by decide +kernel
theorem dX2_refusalOfSetting_25 : decode cX2_refusalOfSetting 25 = .ok (.goto 5, 3) := by decide +kernel
theorem dX2_refusalOfSetting_28 : decode cX2_refusalOfSetting 28 = .ok (.bipush 6, 2) := by decide +kernel
theorem dX2_refusalOfSetting_30 : decode cX2_refusalOfSetting 30 = .ok (.ireturn, 1) := by decide +kernel
set_option maxRecDepth 20000 in
theorem ggX2_isNumber_X1_amount : GoodIn wsX2_isNumber wsX1_amount := goodIn_r _ [6, 7] (by decide +kernel) (by decide +kernel)
set_option maxRecDepth 20000 in
theorem gX2_isNumber_X1_amount : GoodIn wsX2_isNumber (va_wsS RX2 127 yX1_amount wsX1_amount) := goodIn_app (goodIn_of _ (by decide +kernel)) ggX2_isNumber_X1_amount
set_option maxRecDepth 20000 in
theorem ggX2_isNumber_X1_shortAmount : GoodIn wsX2_isNumber wsX1_shortAmount := goodIn_r _ [10, 11] (by decide +kernel) (by decide +kernel)
set_option maxRecDepth 20000 in
theorem gX2_isNumber_X1_shortAmount : GoodIn wsX2_isNumber (va_wsS RX2 135 yX1_shortAmount wsX1_shortAmount) := goodIn_app (goodIn_of _ (by decide +kernel)) ggX2_isNumber_X1_shortAmount
theorem dX2_isNumber_0 : decode cX2_isNumber 0 = .ok (.iload_n 0, 1) := by decide +kernel
theorem dX2_isNumber_1 : decode cX2_isNumber 1 = .ok (.tableswitch 72 0 5 #[39, 56, 72, 72, 39, 39], 39) := by decide +kernel
theorem dX2_isNumber_40 : decode cX2_isNumber 40 = .ok (.lload_n 1, 1) := by decide +kernel
theorem dX2_isNumber_41 : decode cX2_isNumber 41 = .ok (.invokestatic 127, 3) := by decide +kernel
theorem dX2_isNumber_44 : decode cX2_isNumber 44 = .ok (.ldc2_w 133, 3) := by decide +kernel
theorem dX2_isNumber_47 : decode cX2_isNumber 47 = .ok (.lcmp, 1) := by decide +kernel
theorem dX2_isNumber_48 : decode cX2_isNumber 48 = .ok (.ifCond .gt 7, 3) := by decide +kernel
theorem dX2_isNumber_51 : decode cX2_isNumber 51 = .ok (.iconst 1, 1) := by decide +kernel
theorem dX2_isNumber_52 : decode cX2_isNumber 52 = .ok (.goto 4, 3) := by decide +kernel
theorem dX2_isNumber_55 : decode cX2_isNumber 55 = .ok (.iconst 0, 1) := by decide +kernel
theorem dX2_isNumber_56 : decode cX2_isNumber 56 = .ok (.ireturn, 1) := by decide +kernel
theorem dX2_isNumber_57 : decode cX2_isNumber 57 = .ok (.lload_n 1, 1) := by decide +kernel
theorem dX2_isNumber_58 : decode cX2_isNumber 58 = .ok (.l2i, 1) := by decide +kernel
theorem dX2_isNumber_59 : decode cX2_isNumber 59 = .ok (.invokestatic 135, 3) := by decide +kernel
theorem dX2_isNumber_62 : decode cX2_isNumber 62 = .ok (.ldc 138, 2) := by decide +kernel
theorem dX2_isNumber_64 : decode cX2_isNumber 64 = .ok (.if_icmp .gt 7, 3) := by decide +kernel
theorem dX2_isNumber_67 : decode cX2_isNumber 67 = .ok (.iconst 1, 1) := by decide +kernel
theorem dX2_isNumber_68 : decode cX2_isNumber 68 = .ok (.goto 4, 3) := by decide +kernel
theorem dX2_isNumber_71 : decode cX2_isNumber 71 = .ok (.iconst 0, 1) := by decide +kernel
theorem dX2_isNumber_72 : decode cX2_isNumber 72 = .ok (.ireturn, 1) := by decide +kernel
theorem dX2_isNumber_73 : decode cX2_isNumber 73 = .ok (.iconst 1, 1) := by decide +kernel
theorem dX2_isNumber_74 : decode cX2_isNumber 74 = .ok (.ireturn, 1) := by decide +kernel
set_option maxRecDepth 20000 in
theorem ggX2_refusalOfStringing_X2_refusalOfThread : GoodIn wsX2_refusalOfStringing wsX2_refusalOfThread := goodIn_r _ [5, 6, 7, 8, 9, 10, 11, 12, 13, 14, 15, 16, 17, 18, 19, 20, 21] (by decide +kernel) (by decide +kernel)
set_option maxRecDepth 20000 in
theorem gX2_refusalOfStringing_X2_refusalOfThread : GoodIn wsX2_refusalOfStringing (wsV RX2 83 RX2 yX2_refusalOfThread wsX2_refusalOfThread) := goodIn_app (goodIn_of _ (by decide +kernel)) ggX2_refusalOfStringing_X2_refusalOfThread
theorem dX2_refusalOfStringing_0 : decode cX2_refusalOfStringing 0 = .ok (.aload_n 0, 1) := by decide +kernel
theorem dX2_refusalOfStringing_1 : decode cX2_refusalOfStringing 1 = .ok (.iload_n 1, 1) := by decide +kernel
theorem dX2_refusalOfStringing_2 : decode cX2_refusalOfStringing 2 = .ok (.invokevirtual 83, 3) := by decide +kernel
theorem dX2_refusalOfStringing_5 : decode cX2_refusalOfStringing 5 = .ok (.istore_n 2, 1) := by decide +kernel
theorem dX2_refusalOfStringing_6 : decode cX2_refusalOfStringing 6 = .ok (.iload_n 2, 1) := by decide +kernel
theorem dX2_refusalOfStringing_7 : decode cX2_refusalOfStringing 7 = .ok (.iconst 2, 1) := by decide +kernel
theorem dX2_refusalOfStringing_8 : decode cX2_refusalOfStringing 8 = .ok (.if_icmp .ne 5, 3) := by decide +kernel
theorem dX2_refusalOfStringing_11 : decode cX2_refusalOfStringing 11 = .ok (.iconst 0, 1) := by decide +kernel
theorem dX2_refusalOfStringing_12 : decode cX2_refusalOfStringing 12 = .ok (.ireturn, 1) := by decide +kernel
theorem dX2_refusalOfStringing_13 : decode cX2_refusalOfStringing 13 = .ok (.iload_n 2, 1) := by decide +kernel
theorem dX2_refusalOfStringing_14 : decode cX2_refusalOfStringing 14 = .ok (.ifCond .ne 8, 3) := by decide +kernel
theorem dX2_refusalOfStringing_17 : decode cX2_refusalOfStringing 17 = .ok (.bipush 7, 2) := by decide +kernel
theorem dX2_refusalOfStringing_19 : decode cX2_refusalOfStringing 19 = .ok (.goto 4, 3) := by decide +kernel
theorem dX2_refusalOfStringing_22 : decode cX2_refusalOfStringing 22 = .ok (.iload_n 2, 1) := by decide +kernel
theorem dX2_refusalOfStringing_23 : decode cX2_refusalOfStringing 23 = .ok (.ireturn, 1) := by decide +kernel
set_option maxRecDepth 20000 in
theorem ggX2_refusalOfMove_X2_refusalOfThread : GoodIn wsX2_refusalOfMove wsX2_refusalOfThread := goodIn_r _ [5, 6, 10, 11, 12, 13, 14, 15, 16, 17, 18, 19, 20, 21, 22, 23, 24] (by decide +kernel) (by decide +kernel)
set_option maxRecDepth 20000 in
theorem gX2_refusalOfMove_X2_refusalOfThread : GoodIn wsX2_refusalOfMove (wsV RX2 83 RX2 yX2_refusalOfThread wsX2_refusalOfThread) := goodIn_app (goodIn_of _ (by decide +kernel)) ggX2_refusalOfMove_X2_refusalOfThread
set_option maxRecDepth 20000 in
theorem ggX2_refusalOfMove_X2_wantsOther : GoodIn wsX2_refusalOfMove wsX2_wantsOther := goodIn_r _ [9] (by decide +kernel) (by decide +kernel)
set_option maxRecDepth 20000 in
theorem gX2_refusalOfMove_X2_wantsOther : GoodIn wsX2_refusalOfMove (va_wsS RX2 139 yX2_wantsOther wsX2_wantsOther) := goodIn_app (goodIn_of _ (by decide +kernel)) ggX2_refusalOfMove_X2_wantsOther
theorem dX2_refusalOfMove_0 : decode cX2_refusalOfMove 0 = .ok (.iload_n 1, 1) := by decide +kernel
theorem dX2_refusalOfMove_1 : decode cX2_refusalOfMove 1 = .ok (.ifCond .lt 9, 3) := by decide +kernel
theorem dX2_refusalOfMove_4 : decode cX2_refusalOfMove 4 = .ok (.iload_n 1, 1) := by decide +kernel
theorem dX2_refusalOfMove_5 : decode cX2_refusalOfMove 5 = .ok (.bipush 15, 2) := by decide +kernel
theorem dX2_refusalOfMove_7 : decode cX2_refusalOfMove 7 = .ok (.if_icmp .le 5, 3) := by decide +kernel
theorem dX2_refusalOfMove_10 : decode cX2_refusalOfMove 10 = .ok (.iconst 5, 1) := by decide +kernel
theorem dX2_refusalOfMove_11 : decode cX2_refusalOfMove 11 = .ok (.ireturn, 1) := by decide +kernel
theorem dX2_refusalOfMove_12 : decode cX2_refusalOfMove 12 = .ok (.aload_n 0, 1) := by decide +kernel
theorem dX2_refusalOfMove_13 : decode cX2_refusalOfMove 13 = .ok (.iload_n 2, 1) := by decide +kernel
theorem dX2_refusalOfMove_14 : decode cX2_refusalOfMove 14 = .ok (.invokevirtual 83, 3) := by decide +kernel
theorem dX2_refusalOfMove_17 : decode cX2_refusalOfMove 17 = .ok (.istore 4, 2) := by decide +kernel
theorem dX2_refusalOfMove_19 : decode cX2_refusalOfMove 19 = .ok (.iload 4, 2) := by decide +kernel
theorem dX2_refusalOfMove_21 : decode cX2_refusalOfMove 21 = .ok (.ifCond .ne 10, 3) := by decide +kernel
theorem dX2_refusalOfMove_24 : decode cX2_refusalOfMove 24 = .ok (.iload_n 1, 1) := by decide +kernel
theorem dX2_refusalOfMove_25 : decode cX2_refusalOfMove 25 = .ok (.invokestatic 139, 3) := by decide +kernel
theorem dX2_refusalOfMove_28 : decode cX2_refusalOfMove 28 = .ok (.ifCond .ne 6, 3) := by decide +kernel
theorem dX2_refusalOfMove_31 : decode cX2_refusalOfMove 31 = .ok (.iload 4, 2) := by decide +kernel
theorem dX2_refusalOfMove_33 : decode cX2_refusalOfMove 33 = .ok (.ireturn, 1) := by decide +kernel
theorem dX2_refusalOfMove_34 : decode cX2_refusalOfMove 34 = .ok (.aload_n 0, 1) := by decide +kernel
theorem dX2_refusalOfMove_35 : decode cX2_refusalOfMove 35 = .ok (.iload_n 3, 1) := by decide +kernel
theorem dX2_refusalOfMove_36 : decode cX2_refusalOfMove 36 = .ok (.invokevirtual 83, 3) := by decide +kernel
theorem dX2_refusalOfMove_39 : decode cX2_refusalOfMove 39 = .ok (.istore 5, 2) := by decide +kernel
theorem dX2_refusalOfMove_41 : decode cX2_refusalOfMove 41 = .ok (.iload 5, 2) := by decide +kernel
theorem dX2_refusalOfMove_43 : decode cX2_refusalOfMove 43 = .ok (.ifCond .ne 7, 3) := by decide +kernel
theorem dX2_refusalOfMove_46 : decode cX2_refusalOfMove 46 = .ok (.iconst 0, 1) := by decide +kernel
theorem dX2_refusalOfMove_47 : decode cX2_refusalOfMove 47 = .ok (.goto 7, 3) := by decide +kernel
theorem dX2_refusalOfMove_50 : decode cX2_refusalOfMove 50 = .ok (.iload 5, 2) := by decide +kernel
theorem dX2_refusalOfMove_52 : decode cX2_refusalOfMove 52 = .ok (.iconst 2, 1) := by decide +kernel
theorem dX2_refusalOfMove_53 : decode cX2_refusalOfMove 53 = .ok (.iadd, 1) := by decide +kernel
theorem dX2_refusalOfMove_54 : decode cX2_refusalOfMove 54 = .ok (.ireturn, 1) := by decide +kernel
theorem dX2_wantsOther_0 : decode cX2_wantsOther 0 = .ok (.iload_n 0, 1) := by decide +kernel
theorem dX2_wantsOther_1 : decode cX2_wantsOther 1 = .ok (.iconst 1, 1) := by decide +kernel
theorem dX2_wantsOther_2 : decode cX2_wantsOther 2 = .ok (.if_icmp .eq 26, 3) := by decide +kernel
theorem dX2_wantsOther_5 : decode cX2_wantsOther 5 = .ok (.iload_n 0, 1) := by decide +kernel
theorem dX2_wantsOther_6 : decode cX2_wantsOther 6 = .ok (.iconst 2, 1) := by decide +kernel
theorem dX2_wantsOther_7 : decode cX2_wantsOther 7 = .ok (.if_icmp .eq 21, 3) := by decide +kernel
theorem dX2_wantsOther_10 : decode cX2_wantsOther 10 = .ok (.iload_n 0, 1) := by decide +kernel
theorem dX2_wantsOther_11 : decode cX2_wantsOther 11 = .ok (.bipush 7, 2) := by decide +kernel
theorem dX2_wantsOther_13 : decode cX2_wantsOther 13 = .ok (.if_icmp .eq 15, 3) := by decide +kernel
theorem dX2_wantsOther_16 : decode cX2_wantsOther 16 = .ok (.iload_n 0, 1) := by decide +kernel
theorem dX2_wantsOther_17 : decode cX2_wantsOther 17 = .ok (.bipush 9, 2) := by decide +kernel
theorem dX2_wantsOther_19 : decode cX2_wantsOther 19 = .ok (.if_icmp .eq 9, 3) := by decide +kernel
theorem dX2_wantsOther_22 : decode cX2_wantsOther 22 = .ok (.iload_n 0, 1) := by decide +kernel
theorem dX2_wantsOther_23 : decode cX2_wantsOther 23 = .ok (.bipush 11, 2) := by decide +kernel
theorem dX2_wantsOther_25 : decode cX2_wantsOther 25 = .ok (.if_icmp .ne 7, 3) := by decide +kernel
theorem dX2_wantsOther_28 : decode cX2_wantsOther 28 = .ok (.iconst 1, 1) := by decide +kernel
theorem dX2_wantsOther_29 : decode cX2_wantsOther 29 = .ok (.goto 4, 3) := by decide +kernel
theorem dX2_wantsOther_32 : decode cX2_wantsOther 32 = .ok (.iconst 0, 1) := by decide +kernel
theorem dX2_wantsOther_33 : decode cX2_wantsOther 33 = .ok (.ireturn, 1) := by decide +kernel
theorem dX2_stringAnew_0 : decode cX2_stringAnew 0 = .ok (.aload_n 0, 1) := by decide +kernel
theorem dX2_stringAnew_1 : decode cX2_stringAnew 1 = .ok (.getfield 29, 3) := by decide +kernel
theorem dX2_stringAnew_4 : decode cX2_stringAnew 4 = .ok (.iload_n 1, 1) := by decide +kernel
theorem dX2_stringAnew_5 : decode cX2_stringAnew 5 = .ok (.iconst 0, 1) := by decide +kernel
theorem dX2_stringAnew_6 : decode cX2_stringAnew 6 = .ok (.bastore, 1) := by decide +kernel
theorem dX2_stringAnew_7 : decode cX2_stringAnew 7 = .ok (.aload_n 0, 1) := by decide +kernel
theorem dX2_stringAnew_8 : decode cX2_stringAnew 8 = .ok (.getfield 9, 3) := by decide +kernel
theorem dX2_stringAnew_11 : decode cX2_stringAnew 11 = .ok (.iload_n 1, 1) := by decide +kernel
theorem dX2_stringAnew_12 : decode cX2_stringAnew 12 = .ok (.lconst 0, 1) := by decide +kernel
theorem dX2_stringAnew_13 : decode cX2_stringAnew 13 = .ok (.lastore, 1) := by decide +kernel
theorem dX2_stringAnew_14 : decode cX2_stringAnew 14 = .ok (.aload_n 0, 1) := by decide +kernel
theorem dX2_stringAnew_15 : decode cX2_stringAnew 15 = .ok (.getfield 13, 3) := by decide +kernel
theorem dX2_stringAnew_18 : decode cX2_stringAnew 18 = .ok (.iload_n 1, 1) := by decide +kernel
theorem dX2_stringAnew_19 : decode cX2_stringAnew 19 = .ok (.iconst 0, 1) := by decide +kernel
theorem dX2_stringAnew_20 : decode cX2_stringAnew 20 = .ok (.iastore, 1) := by decide +kernel
theorem dX2_stringAnew_21 : decode cX2_stringAnew 21 = .ok (.aload_n 0, 1) := by decide +kernel
theorem dX2_stringAnew_22 : decode cX2_stringAnew 22 = .ok (.getfield 17, 3) := by decide +kernel
theorem dX2_stringAnew_25 : decode cX2_stringAnew 25 = .ok (.iload_n 1, 1) := by decide +kernel
theorem dX2_stringAnew_26 : decode cX2_stringAnew 26 = .ok (.iconst 0, 1) := by decide +kernel
theorem dX2_stringAnew_27 : decode cX2_stringAnew 27 = .ok (.iastore, 1) := by decide +kernel
theorem dX2_stringAnew_28 : decode cX2_stringAnew 28 = .ok (.aload_n 0, 1) := by decide +kernel
theorem dX2_stringAnew_29 : decode cX2_stringAnew 29 = .ok (.getfield 20, 3) := by decide +kernel
theorem dX2_stringAnew_32 : decode cX2_stringAnew 32 = .ok (.iload_n 1, 1) := by decide +kernel
theorem dX2_stringAnew_33 : decode cX2_stringAnew 33 = .ok (.lconst 0, 1) := by decide +kernel
theorem dX2_stringAnew_34 : decode cX2_stringAnew 34 = .ok (.lastore, 1) := by decide +kernel
theorem dX2_stringAnew_35 : decode cX2_stringAnew 35 = .ok (.aload_n 0, 1) := by decide +kernel
theorem dX2_stringAnew_36 : decode cX2_stringAnew 36 = .ok (.getfield 23, 3) := by decide +kernel
theorem dX2_stringAnew_39 : decode cX2_stringAnew 39 = .ok (.iload_n 1, 1) := by decide +kernel
theorem dX2_stringAnew_40 : decode cX2_stringAnew 40 = .ok (.ldc2_w 143, 3) := by decide +kernel
theorem dX2_stringAnew_43 : decode cX2_stringAnew 43 = .ok (.lastore, 1) := by decide +kernel
theorem dX2_stringAnew_44 : decode cX2_stringAnew 44 = .ok (.aload_n 0, 1) := by decide +kernel
theorem dX2_stringAnew_45 : decode cX2_stringAnew 45 = .ok (.getfield 26, 3) := by decide +kernel
theorem dX2_stringAnew_48 : decode cX2_stringAnew 48 = .ok (.iload_n 1, 1) := by decide +kernel
theorem dX2_stringAnew_49 : decode cX2_stringAnew 49 = .ok (.ldc2_w 133, 3) := by decide +kernel
theorem dX2_stringAnew_52 : decode cX2_stringAnew 52 = .ok (.lastore, 1) := by decide +kernel
theorem dX2_stringAnew_53 : decode cX2_stringAnew 53 = .ok (.return_, 1) := by decide +kernel
theorem dX2_write_0 : decode cX2_write 0 = .ok (.iload_n 2, 1) := by decide +kernel
theorem dX2_write_1 : decode cX2_write 1 = .ok (.tableswitch 101 0 5 #[39, 49, 60, 71, 81, 91], 39) := by decide +kernel
theorem dX2_write_40 : decode cX2_write 40 = .ok (.aload_n 0, 1) := by decide +kernel
theorem dX2_write_41 : decode cX2_write 41 = .ok (.getfield 9, 3) := by decide +kernel
theorem dX2_write_44 : decode cX2_write 44 = .ok (.iload_n 1, 1) := by decide +kernel
theorem dX2_write_45 : decode cX2_write 45 = .ok (.lload_n 3, 1) := by decide +kernel
theorem dX2_write_46 : decode cX2_write 46 = .ok (.lastore, 1) := by decide +kernel
theorem dX2_write_47 : decode cX2_write 47 = .ok (.goto 55, 3) := by decide +kernel
theorem dX2_write_50 : decode cX2_write 50 = .ok (.aload_n 0, 1) := by decide +kernel
theorem dX2_write_51 : decode cX2_write 51 = .ok (.getfield 13, 3) := by decide +kernel
theorem dX2_write_54 : decode cX2_write 54 = .ok (.iload_n 1, 1) := by decide +kernel
theorem dX2_write_55 : decode cX2_write 55 = .ok (.lload_n 3, 1) := by decide +kernel
theorem dX2_write_56 : decode cX2_write 56 = .ok (.l2i, 1) := by decide +kernel
theorem dX2_write_57 : decode cX2_write 57 = .ok (.iastore, 1) := by decide +kernel
theorem dX2_write_58 : decode cX2_write 58 = .ok (.goto 44, 3) := by decide +kernel
theorem dX2_write_61 : decode cX2_write 61 = .ok (.aload_n 0, 1) := by decide +kernel
theorem dX2_write_62 : decode cX2_write 62 = .ok (.getfield 17, 3) := by decide +kernel
theorem dX2_write_65 : decode cX2_write 65 = .ok (.iload_n 1, 1) := by decide +kernel
theorem dX2_write_66 : decode cX2_write 66 = .ok (.lload_n 3, 1) := by decide +kernel
theorem dX2_write_67 : decode cX2_write 67 = .ok (.l2i, 1) := by decide +kernel
theorem dX2_write_68 : decode cX2_write 68 = .ok (.iastore, 1) := by decide +kernel
theorem dX2_write_69 : decode cX2_write 69 = .ok (.goto 33, 3) := by decide +kernel
theorem dX2_write_72 : decode cX2_write 72 = .ok (.aload_n 0, 1) := by decide +kernel
theorem dX2_write_73 : decode cX2_write 73 = .ok (.getfield 20, 3) := by decide +kernel
theorem dX2_write_76 : decode cX2_write 76 = .ok (.iload_n 1, 1) := by decide +kernel
theorem dX2_write_77 : decode cX2_write 77 = .ok (.lload_n 3, 1) := by decide +kernel
theorem dX2_write_78 : decode cX2_write 78 = .ok (.lastore, 1) := by decide +kernel
theorem dX2_write_79 : decode cX2_write 79 = .ok (.goto 23, 3) := by decide +kernel
theorem dX2_write_82 : decode cX2_write 82 = .ok (.aload_n 0, 1) := by decide +kernel
theorem dX2_write_83 : decode cX2_write 83 = .ok (.getfield 23, 3) := by decide +kernel
theorem dX2_write_86 : decode cX2_write 86 = .ok (.iload_n 1, 1) := by decide +kernel
theorem dX2_write_87 : decode cX2_write 87 = .ok (.lload_n 3, 1) := by decide +kernel
theorem dX2_write_88 : decode cX2_write 88 = .ok (.lastore, 1) := by decide +kernel
theorem dX2_write_89 : decode cX2_write 89 = .ok (.goto 13, 3) := by decide +kernel
theorem dX2_write_92 : decode cX2_write 92 = .ok (.aload_n 0, 1) := by decide +kernel
theorem dX2_write_93 : decode cX2_write 93 = .ok (.getfield 26, 3) := by decide +kernel
theorem dX2_write_96 : decode cX2_write 96 = .ok (.iload_n 1, 1) := by decide +kernel
theorem dX2_write_97 : decode cX2_write 97 = .ok (.lload_n 3, 1) := by decide +kernel
theorem dX2_write_98 : decode cX2_write 98 = .ok (.lastore, 1) := by decide +kernel
theorem dX2_write_99 : decode cX2_write 99 = .ok (.goto 3, 3) := by decide +kernel
theorem dX2_write_102 : decode cX2_write 102 = .ok (.return_, 1) := by decide +kernel
theorem dX2_read_0 : decode cX2_read 0 = .ok (.iload_n 2, 1) := by decide +kernel
theorem dX2_read_1 : decode cX2_read 1 = .ok (.tableswitch 83 0 5 #[39, 46, 54, 62, 69, 76], 39) := by decide +kernel
theorem dX2_read_40 : decode cX2_read 40 = .ok (.aload_n 0, 1) := by decide +kernel
theorem dX2_read_41 : decode cX2_read 41 = .ok (.getfield 9, 3) := by decide +kernel
theorem dX2_read_44 : decode cX2_read 44 = .ok (.iload_n 1, 1) := by decide +kernel
theorem dX2_read_45 : decode cX2_read 45 = .ok (.laload, 1) := by decide +kernel
theorem dX2_read_46 : decode cX2_read 46 = .ok (.lreturn, 1) := by decide +kernel
theorem dX2_read_47 : decode cX2_read 47 = .ok (.aload_n 0, 1) := by decide +kernel
theorem dX2_read_48 : decode cX2_read 48 = .ok (.getfield 13, 3) := by decide +kernel
theorem dX2_read_51 : decode cX2_read 51 = .ok (.iload_n 1, 1) := by decide +kernel
theorem dX2_read_52 : decode cX2_read 52 = .ok (.iaload, 1) := by decide +kernel
theorem dX2_read_53 : decode cX2_read 53 = .ok (.i2l, 1) := by decide +kernel
theorem dX2_read_54 : decode cX2_read 54 = .ok (.lreturn, 1) := by decide +kernel
theorem dX2_read_55 : decode cX2_read 55 = .ok (.aload_n 0, 1) := by decide +kernel
theorem dX2_read_56 : decode cX2_read 56 = .ok (.getfield 17, 3) := by decide +kernel
theorem dX2_read_59 : decode cX2_read 59 = .ok (.iload_n 1, 1) := by decide +kernel
theorem dX2_read_60 : decode cX2_read 60 = .ok (.iaload, 1) := by decide +kernel
theorem dX2_read_61 : decode cX2_read 61 = .ok (.i2l, 1) := by decide +kernel
theorem dX2_read_62 : decode cX2_read 62 = .ok (.lreturn, 1) := by decide +kernel
theorem dX2_read_63 : decode cX2_read 63 = .ok (.aload_n 0, 1) := by decide +kernel
theorem dX2_read_64 : decode cX2_read 64 = .ok (.getfield 20, 3) := by decide +kernel
theorem dX2_read_67 : decode cX2_read 67 = .ok (.iload_n 1, 1) := by decide +kernel
theorem dX2_read_68 : decode cX2_read 68 = .ok (.laload, 1) := by decide +kernel
theorem dX2_read_69 : decode cX2_read 69 = .ok (.lreturn, 1) := by decide +kernel
theorem dX2_read_70 : decode cX2_read 70 = .ok (.aload_n 0, 1) := by decide +kernel
theorem dX2_read_71 : decode cX2_read 71 = .ok (.getfield 23, 3) := by decide +kernel
theorem dX2_read_74 : decode cX2_read 74 = .ok (.iload_n 1, 1) := by decide +kernel
theorem dX2_read_75 : decode cX2_read 75 = .ok (.laload, 1) := by decide +kernel
theorem dX2_read_76 : decode cX2_read 76 = .ok (.lreturn, 1) := by decide +kernel
theorem dX2_read_77 : decode cX2_read 77 = .ok (.aload_n 0, 1) := by decide +kernel
theorem dX2_read_78 : decode cX2_read 78 = .ok (.getfield 26, 3) := by decide +kernel
theorem dX2_read_81 : decode cX2_read 81 = .ok (.iload_n 1, 1) := by decide +kernel
theorem dX2_read_82 : decode cX2_read 82 = .ok (.laload, 1) := by decide +kernel
theorem dX2_read_83 : decode cX2_read 83 = .ok (.lreturn, 1) := by decide +kernel
theorem dX2_read_84 : decode cX2_read 84 = .ok (.lconst 0, 1) := by decide +kernel
theorem dX2_read_85 : decode cX2_read 85 = .ok (.lreturn, 1) := by decide +kernel
theorem dX2_changeLength_0 : decode cX2_changeLength 0 = .ok (.aload_n 0, 1) := by decide +kernel
theorem dX2_changeLength_1 : decode cX2_changeLength 1 = .ok (.getfield 9, 3) := by decide +kernel
theorem dX2_changeLength_4 : decode cX2_changeLength 4 = .ok (.iload_n 1, 1) := by decide +kernel
theorem dX2_changeLength_5 : decode cX2_changeLength 5 = .ok (.laload, 1) := by decide +kernel
theorem dX2_changeLength_6 : decode cX2_changeLength 6 = .ok (.lload_n 2, 1) := by decide +kernel
theorem dX2_changeLength_7 : decode cX2_changeLength 7 = .ok (.lcmp, 1) := by decide +kernel
theorem dX2_changeLength_8 : decode cX2_changeLength 8 = .ok (.ifCond .eq 20, 3) := by decide +kernel
theorem dX2_changeLength_11 : decode cX2_changeLength 11 = .ok (.aload_n 0, 1) := by decide +kernel
theorem dX2_changeLength_12 : decode cX2_changeLength 12 = .ok (.getfield 9, 3) := by decide +kernel
theorem dX2_changeLength_15 : decode cX2_changeLength 15 = .ok (.iload_n 1, 1) := by decide +kernel
theorem dX2_changeLength_16 : decode cX2_changeLength 16 = .ok (.lload_n 2, 1) := by decide +kernel
theorem dX2_changeLength_17 : decode cX2_changeLength 17 = .ok (.lastore, 1) := by decide +kernel
theorem dX2_changeLength_18 : decode cX2_changeLength 18 = .ok (.aload_n 0, 1) := by decide +kernel
theorem dX2_changeLength_19 : decode cX2_changeLength 19 = .ok (.getfield 57, 3) := by decide +kernel
theorem dX2_changeLength_22 : decode cX2_changeLength 22 = .ok (.iconst 1, 1) := by decide +kernel
theorem dX2_changeLength_23 : decode cX2_changeLength 23 = .ok (.dup2, 1) := by decide +kernel
theorem dX2_changeLength_24 : decode cX2_changeLength 24 = .ok (.iaload, 1) := by decide +kernel
theorem dX2_changeLength_25 : decode cX2_changeLength 25 = .ok (.iconst 1, 1) := by decide +kernel
theorem dX2_changeLength_26 : decode cX2_changeLength 26 = .ok (.iadd, 1) := by decide +kernel
theorem dX2_changeLength_27 : decode cX2_changeLength 27 = .ok (.iastore, 1) := by decide +kernel
theorem dX2_changeLength_28 : decode cX2_changeLength 28 = .ok (.return_, 1) := by decide +kernel
theorem dX2_changePull_0 : decode cX2_changePull 0 = .ok (.aload_n 0, 1) := by decide +kernel
theorem dX2_changePull_1 : decode cX2_changePull 1 = .ok (.getfield 13, 3) := by decide +kernel
theorem dX2_changePull_4 : decode cX2_changePull 4 = .ok (.iload_n 1, 1) := by decide +kernel
theorem dX2_changePull_5 : decode cX2_changePull 5 = .ok (.iaload, 1) := by decide +kernel
theorem dX2_changePull_6 : decode cX2_changePull 6 = .ok (.iload_n 2, 1) := by decide +kernel
theorem dX2_changePull_7 : decode cX2_changePull 7 = .ok (.if_icmp .eq 20, 3) := by decide +kernel
theorem dX2_changePull_10 : decode cX2_changePull 10 = .ok (.aload_n 0, 1) := by decide +kernel
theorem dX2_changePull_11 : decode cX2_changePull 11 = .ok (.getfield 13, 3) := by decide +kernel
theorem dX2_changePull_14 : decode cX2_changePull 14 = .ok (.iload_n 1, 1) := by decide +kernel
theorem dX2_changePull_15 : decode cX2_changePull 15 = .ok (.iload_n 2, 1) := by decide +kernel
theorem dX2_changePull_16 : decode cX2_changePull 16 = .ok (.iastore, 1) := by decide +kernel
theorem dX2_changePull_17 : decode cX2_changePull 17 = .ok (.aload_n 0, 1) := by decide +kernel
theorem dX2_changePull_18 : decode cX2_changePull 18 = .ok (.getfield 57, 3) := by decide +kernel
theorem dX2_changePull_21 : decode cX2_changePull 21 = .ok (.iconst 2, 1) := by decide +kernel
theorem dX2_changePull_22 : decode cX2_changePull 22 = .ok (.dup2, 1) := by decide +kernel
theorem dX2_changePull_23 : decode cX2_changePull 23 = .ok (.iaload, 1) := by decide +kernel
theorem dX2_changePull_24 : decode cX2_changePull 24 = .ok (.iconst 1, 1) := by decide +kernel
theorem dX2_changePull_25 : decode cX2_changePull 25 = .ok (.iadd, 1) := by decide +kernel
theorem dX2_changePull_26 : decode cX2_changePull 26 = .ok (.iastore, 1) := by decide +kernel
theorem dX2_changePull_27 : decode cX2_changePull 27 = .ok (.return_, 1) := by decide +kernel
theorem dX2_changeKnots_0 : decode cX2_changeKnots 0 = .ok (.aload_n 0, 1) := by decide +kernel
theorem dX2_changeKnots_1 : decode cX2_changeKnots 1 = .ok (.getfield 17, 3) := by decide +kernel
theorem dX2_changeKnots_4 : decode cX2_changeKnots 4 = .ok (.iload_n 1, 1) := by decide +kernel
theorem dX2_changeKnots_5 : decode cX2_changeKnots 5 = .ok (.iaload, 1) := by decide +kernel
theorem dX2_changeKnots_6 : decode cX2_changeKnots 6 = .ok (.iload_n 2, 1) := by decide +kernel
theorem dX2_changeKnots_7 : decode cX2_changeKnots 7 = .ok (.if_icmp .eq 20, 3) := by decide +kernel
theorem dX2_changeKnots_10 : decode cX2_changeKnots 10 = .ok (.aload_n 0, 1) := by decide +kernel
theorem dX2_changeKnots_11 : decode cX2_changeKnots 11 = .ok (.getfield 17, 3) := by decide +kernel
theorem dX2_changeKnots_14 : decode cX2_changeKnots 14 = .ok (.iload_n 1, 1) := by decide +kernel
theorem dX2_changeKnots_15 : decode cX2_changeKnots 15 = .ok (.iload_n 2, 1) := by decide +kernel
theorem dX2_changeKnots_16 : decode cX2_changeKnots 16 = .ok (.iastore, 1) := by decide +kernel
theorem dX2_changeKnots_17 : decode cX2_changeKnots 17 = .ok (.aload_n 0, 1) := by decide +kernel
theorem dX2_changeKnots_18 : decode cX2_changeKnots 18 = .ok (.getfield 57, 3) := by decide +kernel
theorem dX2_changeKnots_21 : decode cX2_changeKnots 21 = .ok (.iconst 3, 1) := by decide +kernel
theorem dX2_changeKnots_22 : decode cX2_changeKnots 22 = .ok (.dup2, 1) := by decide +kernel
theorem dX2_changeKnots_23 : decode cX2_changeKnots 23 = .ok (.iaload, 1) := by decide +kernel
theorem dX2_changeKnots_24 : decode cX2_changeKnots 24 = .ok (.iconst 1, 1) := by decide +kernel
theorem dX2_changeKnots_25 : decode cX2_changeKnots 25 = .ok (.iadd, 1) := by decide +kernel
theorem dX2_changeKnots_26 : decode cX2_changeKnots 26 = .ok (.iastore, 1) := by decide +kernel
theorem dX2_changeKnots_27 : decode cX2_changeKnots 27 = .ok (.return_, 1) := by decide +kernel
theorem dX2_changeTwist_0 : decode cX2_changeTwist 0 = .ok (.aload_n 0, 1) := by decide +kernel
theorem dX2_changeTwist_1 : decode cX2_changeTwist 1 = .ok (.getfield 20, 3) := by decide +kernel
theorem dX2_changeTwist_4 : decode cX2_changeTwist 4 = .ok (.iload_n 1, 1) := by decide +kernel
theorem dX2_changeTwist_5 : decode cX2_changeTwist 5 = .ok (.laload, 1) := by decide +kernel
theorem dX2_changeTwist_6 : decode cX2_changeTwist 6 = .ok (.lload_n 2, 1) := by decide +kernel
theorem dX2_changeTwist_7 : decode cX2_changeTwist 7 = .ok (.lcmp, 1) := by decide +kernel
theorem dX2_changeTwist_8 : decode cX2_changeTwist 8 = .ok (.ifCond .eq 20, 3) := by decide +kernel
theorem dX2_changeTwist_11 : decode cX2_changeTwist 11 = .ok (.aload_n 0, 1) := by decide +kernel
theorem dX2_changeTwist_12 : decode cX2_changeTwist 12 = .ok (.getfield 20, 3) := by decide +kernel
theorem dX2_changeTwist_15 : decode cX2_changeTwist 15 = .ok (.iload_n 1, 1) := by decide +kernel
theorem dX2_changeTwist_16 : decode cX2_changeTwist 16 = .ok (.lload_n 2, 1) := by decide +kernel
theorem dX2_changeTwist_17 : decode cX2_changeTwist 17 = .ok (.lastore, 1) := by decide +kernel
theorem dX2_changeTwist_18 : decode cX2_changeTwist 18 = .ok (.aload_n 0, 1) := by decide +kernel
theorem dX2_changeTwist_19 : decode cX2_changeTwist 19 = .ok (.getfield 57, 3) := by decide +kernel
theorem dX2_changeTwist_22 : decode cX2_changeTwist 22 = .ok (.iconst 4, 1) := by decide +kernel
theorem dX2_changeTwist_23 : decode cX2_changeTwist 23 = .ok (.dup2, 1) := by decide +kernel
theorem dX2_changeTwist_24 : decode cX2_changeTwist 24 = .ok (.iaload, 1) := by decide +kernel
theorem dX2_changeTwist_25 : decode cX2_changeTwist 25 = .ok (.iconst 1, 1) := by decide +kernel
theorem dX2_changeTwist_26 : decode cX2_changeTwist 26 = .ok (.iadd, 1) := by decide +kernel
theorem dX2_changeTwist_27 : decode cX2_changeTwist 27 = .ok (.iastore, 1) := by decide +kernel
theorem dX2_changeTwist_28 : decode cX2_changeTwist 28 = .ok (.return_, 1) := by decide +kernel
theorem dX2_clearChanges_0 : decode cX2_clearChanges 0 = .ok (.iconst 0, 1) := by decide +kernel
theorem dX2_clearChanges_1 : decode cX2_clearChanges 1 = .ok (.istore_n 1, 1) := by decide +kernel
theorem dX2_clearChanges_2 : decode cX2_clearChanges 2 = .ok (.iload_n 1, 1) := by decide +kernel
theorem dX2_clearChanges_3 : decode cX2_clearChanges 3 = .ok (.iconst 5, 1) := by decide +kernel
theorem dX2_clearChanges_4 : decode cX2_clearChanges 4 = .ok (.if_icmp .ge 16, 3) := by decide +kernel
theorem dX2_clearChanges_7 : decode cX2_clearChanges 7 = .ok (.aload_n 0, 1) := by decide +kernel
theorem dX2_clearChanges_8 : decode cX2_clearChanges 8 = .ok (.getfield 57, 3) := by decide +kernel
theorem dX2_clearChanges_11 : decode cX2_clearChanges 11 = .ok (.iload_n 1, 1) := by decide +kernel
theorem dX2_clearChanges_12 : decode cX2_clearChanges 12 = .ok (.iconst 0, 1) := by decide +kernel
theorem dX2_clearChanges_13 : decode cX2_clearChanges 13 = .ok (.iastore, 1) := by decide +kernel
theorem dX2_clearChanges_14 : decode cX2_clearChanges 14 = .ok (.iinc 1 1, 3) := by decide +kernel
