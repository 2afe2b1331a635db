def f_X1_amount (b : Int64) : Int64 := b &&& 9223372036854775807
set_option maxHeartbeats 4000000 in
set_option maxRecDepth 100000 in
theorem c_X1_amount (l : Launch) (b : Int64) : MetPl l yX1_amount wsX1_amount { frames := 0, cells := 0, slots := 0, locals := 0 } [.long b] (f_X1_amount b) := by
  refine en_Pl (cc := cX1_amount) (maxL := 2) (ret := (some .long)) (by decide) rfl (Nat.le_of_ble_eq_true rfl) ?_
  intro p e st m below meth c ls hx hb hr hml hts hown hlk hl
  have hown : st.vm.findClass RX1 = some m.cls := hown
  have hl : lv_has ls 2 [(0, .long b)] := hl
  have k9 := hts (.constantLong RX1 9 (9223372036854775807)) (by decide +kernel)
  refine lv_lload_n hx hb dX1_amount_0 rfl (lv_at hl 0 rfl) ?_
  refine lv_ldc2 hx hb hown k9 dX1_amount_1 ?_
  refine lv_land hx hb dX1_amount_4 ?_
  exact rt_Pl hx hb hr hlk (Eq.symm (rfl)) dX1_amount_5

def f_X1_shortAmount (b : Int32) : Int32 := b &&& 2147483647
set_option maxHeartbeats 4000000 in
set_option maxRecDepth 100000 in
theorem c_X1_shortAmount (l : Launch) (b : Int32) : MetPi l yX1_shortAmount wsX1_shortAmount { frames := 0, cells := 0, slots := 0, locals := 0 } [.int b] (f_X1_shortAmount b) := by
  refine en_Pi (cc := cX1_shortAmount) (maxL := 1) (ret := (some .int)) (by decide) rfl (Nat.le_of_ble_eq_true rfl) ?_
  intro p e st m below meth c ls hx hb hr hml hts hown hlk hl
  have hown : st.vm.findClass RX1 = some m.cls := hown
  have hl : lv_has ls 1 [(0, .int b)] := hl
  have k11 := hts (.constant RX1 11 (2147483647)) (by decide +kernel)
  refine lv_iload_n hx hb dX1_shortAmount_0 rfl (lv_at hl 0 rfl) ?_
  refine lv_ldc hx hb hown k11 dX1_shortAmount_1 ?_
  refine lv_iand hx hb dX1_shortAmount_3 ?_
  exact rt_Pi hx hb hr hlk (Eq.symm (rfl)) dX1_shortAmount_4

def f_X1_withSign (b : Int64) (g : Int64) : Int64 := b ||| (g &&& (-9223372036854775808))
set_option maxHeartbeats 4000000 in
set_option maxRecDepth 100000 in
theorem c_X1_withSign (l : Launch) (b : Int64) (g : Int64) : MetPl l yX1_withSign wsX1_withSign { frames := 0, cells := 0, slots := 0, locals := 0 } [.long b, .long g] (f_X1_withSign b g) := by
  refine en_Pl (cc := cX1_withSign) (maxL := 4) (ret := (some .long)) (by decide) rfl (Nat.le_of_ble_eq_true rfl) ?_
  intro p e st m below meth c ls hx hb hr hml hts hown hlk hl
  have hown : st.vm.findClass RX1 = some m.cls := hown
  have hl : lv_has ls 4 [(0, .long b), (2, .long g)] := hl
  have k12 := hts (.constantLong RX1 12 (-9223372036854775808)) (by decide +kernel)
  refine lv_lload_n hx hb dX1_withSign_0 rfl (lv_at hl 0 rfl) ?_
  refine lv_lload_n hx hb dX1_withSign_1 rfl (lv_at hl 1 rfl) ?_
  refine lv_ldc2 hx hb hown k12 dX1_withSign_2 ?_
  refine lv_land hx hb dX1_withSign_5 ?_
  refine lv_lor hx hb dX1_withSign_6 ?_
  exact rt_Pl hx hb hr hlk (Eq.symm (rfl)) dX1_withSign_7

def f_X1_shortWithSign (b : Int32) (g : Int32) : Int32 := b ||| (g &&& (-2147483648))
set_option maxHeartbeats 4000000 in
set_option maxRecDepth 100000 in
theorem c_X1_shortWithSign (l : Launch) (b : Int32) (g : Int32) : MetPi l yX1_shortWithSign wsX1_shortWithSign { frames := 0, cells := 0, slots := 0, locals := 0 } [.int b, .int g] (f_X1_shortWithSign b g) := by
  refine en_Pi (cc := cX1_shortWithSign) (maxL := 2) (ret := (some .int)) (by decide) rfl (Nat.le_of_ble_eq_true rfl) ?_
  intro p e st m below meth c ls hx hb hr hml hts hown hlk hl
  have hown : st.vm.findClass RX1 = some m.cls := hown
  have hl : lv_has ls 2 [(0, .int b), (1, .int g)] := hl
  have k14 := hts (.constant RX1 14 (-2147483648)) (by decide +kernel)
  refine lv_iload_n hx hb dX1_shortWithSign_0 rfl (lv_at hl 0 rfl) ?_
  refine lv_iload_n hx hb dX1_shortWithSign_1 rfl (lv_at hl 1 rfl) ?_
  refine lv_ldc hx hb hown k14 dX1_shortWithSign_2 ?_
  refine lv_iand hx hb dX1_shortWithSign_4 ?_
  refine lv_ior hx hb dX1_shortWithSign_5 ?_
  exact rt_Pi hx hb hr hlk (Eq.symm (rfl)) dX1_shortWithSign_6

def f_X1_rank (b : Int64) : Int64 := if 0 ≤ b then (b) else (b ^^^ 9223372036854775807)
set_option maxHeartbeats 4000000 in
set_option maxRecDepth 100000 in
theorem c_X1_rank (l : Launch) (b : Int64) : MetPl l yX1_rank wsX1_rank { frames := 0, cells := 0, slots := 0, locals := 0 } [.long b] (f_X1_rank b) := by
  refine en_Pl (cc := cX1_rank) (maxL := 2) (ret := (some .long)) (by decide) rfl (Nat.le_of_ble_eq_true rfl) ?_
  intro p e st m below meth c ls hx hb hr hml hts hown hlk hl
  have hown : st.vm.findClass RX1 = some m.cls := hown
  have hl : lv_has ls 2 [(0, .long b)] := hl
  have k9 := hts (.constantLong RX1 9 (9223372036854775807)) (by decide +kernel)
  refine lv_lload_n hx hb dX1_rank_0 rfl (lv_at hl 0 rfl) ?_
  refine lv_lconst (v := 0) hx hb dX1_rank_1 (by decide) ?_
  refine W.lcmp hx hb dX1_rank_2 ?_
  refine lv_if_ge (tgt := 14) hx hb dX1_rank_3 (by decide) (fun c_3 => ?_) (fun c_3 => ?_)
  · have c_3 := (lg_cmp_ge _ _).mp c_3
    refine lv_lload_n hx hb dX1_rank_14 rfl (lv_at hl 0 rfl) ?_
    exact rt_Pl hx hb hr hlk (Eq.symm (Eq.trans (if_pos c_3) (rfl))) dX1_rank_15
  · have c_3 := mt (lg_cmp_ge _ _).mpr c_3
    refine lv_lload_n hx hb dX1_rank_6 rfl (lv_at hl 0 rfl) ?_
    refine lv_ldc2 hx hb hown k9 dX1_rank_7 ?_
    refine lv_lxor hx hb dX1_rank_10 ?_
    refine lv_goto (tgt := 15) hx hb dX1_rank_11 (by decide) ?_
    exact rt_Pl hx hb hr hlk (Eq.symm (Eq.trans (if_neg c_3) (rfl))) dX1_rank_15

def f_X1_shortRank (b : Int32) : Int32 := if 0 ≤ b then (b) else (b ^^^ 2147483647)
set_option maxHeartbeats 4000000 in
set_option maxRecDepth 100000 in
theorem c_X1_shortRank (l : Launch) (b : Int32) : MetPi l yX1_shortRank wsX1_shortRank { frames := 0, cells := 0, slots := 0, locals := 0 } [.int b] (f_X1_shortRank b) := by
  refine en_Pi (cc := cX1_shortRank) (maxL := 1) (ret := (some .int)) (by decide) rfl (Nat.le_of_ble_eq_true rfl) ?_
  intro p e st m below meth c ls hx hb hr hml hts hown hlk hl
  have hown : st.vm.findClass RX1 = some m.cls := hown
  have hl : lv_has ls 1 [(0, .int b)] := hl
  have k11 := hts (.constant RX1 11 (2147483647)) (by decide +kernel)
  refine lv_iload_n hx hb dX1_shortRank_0 rfl (lv_at hl 0 rfl) ?_
  refine lv_if_ge (tgt := 11) hx hb dX1_shortRank_1 (by decide) (fun c_1 => ?_) (fun c_1 => ?_)
  · refine lv_iload_n hx hb dX1_shortRank_11 rfl (lv_at hl 0 rfl) ?_
    exact rt_Pi hx hb hr hlk (Eq.symm (Eq.trans (if_pos c_1) (rfl))) dX1_shortRank_12
  · refine lv_iload_n hx hb dX1_shortRank_4 rfl (lv_at hl 0 rfl) ?_
    refine lv_ldc hx hb hown k11 dX1_shortRank_5 ?_
    refine lv_ixor hx hb dX1_shortRank_7 ?_
    refine lv_goto (tgt := 12) hx hb dX1_shortRank_8 (by decide) ?_
    exact rt_Pi hx hb hr hlk (Eq.symm (Eq.trans (if_neg c_1) (rfl))) dX1_shortRank_12

def f_X1_greater (b : Int64) (g : Int64) : Int64 := if (f_X1_rank b) < (f_X1_rank g) then (g) else (b)
set_option maxHeartbeats 4000000 in
set_option maxRecDepth 100000 in
theorem c_X1_greater (l : Launch) (b : Int64) (g : Int64) : MetPl l yX1_greater wsX1_greater { frames := 1, cells := 0, slots := 0, locals := 21 } [.long b, .long g] (f_X1_greater b g) := by
  refine en_Pl (cc := cX1_greater) (maxL := 4) (ret := (some .long)) (by decide) rfl (Nat.le_of_ble_eq_true rfl) ?_
  intro p e st m below meth c ls hx hb hr hml hts hown hlk hl
  have hown : st.vm.findClass RX1 = some m.cls := hown
  have hl : lv_has ls 4 [(0, .long b), (2, .long g)] := hl
  refine lv_lload_n hx hb dX1_greater_0 rfl (lv_at hl 0 rfl) ?_
  refine cl_Pl (c_X1_rank l _) ⟨hx, hb, hml, hown, hts⟩ (va_cwS 1 hts gX1_greater_X1_rank rfl rfl rfl (by decide +kernel) ⟨Nat.le_of_ble_eq_true rfl, Nat.le_of_ble_eq_true rfl⟩) rfl hl.1 rfl (Nat.le_of_ble_eq_true rfl) (Nat.zero_le _) (Nat.zero_le _) dX1_greater_1 ?_
  refine lv_lload_n hx hb dX1_greater_4 rfl (lv_at hl 1 rfl) ?_
  refine cl_Pl (c_X1_rank l _) ⟨hx, hb, hml, hown, hts⟩ (va_cwS 1 hts gX1_greater_X1_rank rfl rfl rfl (by decide +kernel) ⟨Nat.le_of_ble_eq_true rfl, Nat.le_of_ble_eq_true rfl⟩) rfl hl.1 rfl (Nat.le_of_ble_eq_true rfl) (Nat.zero_le _) (Nat.zero_le _) dX1_greater_5 ?_
  refine W.lcmp hx hb dX1_greater_8 ?_
  refine lv_if_lt (tgt := 16) hx hb dX1_greater_9 (by decide) (fun c_9 => ?_) (fun c_9 => ?_)
  · have c_9 := (lg_cmp_lt _ _).mp c_9
    refine lv_lload_n hx hb dX1_greater_16 rfl (lv_at hl 1 rfl) ?_
    exact rt_Pl hx hb hr hlk (Eq.symm (Eq.trans (if_pos c_9) (rfl))) dX1_greater_17
  · have c_9 := mt (lg_cmp_lt _ _).mpr c_9
    refine lv_lload_n hx hb dX1_greater_12 rfl (lv_at hl 0 rfl) ?_
    refine lv_goto (tgt := 17) hx hb dX1_greater_13 (by decide) ?_
    exact rt_Pl hx hb hr hlk (Eq.symm (Eq.trans (if_neg c_9) (rfl))) dX1_greater_17

def f_X1_lesser (b : Int64) (g : Int64) : Int64 := if (f_X1_rank g) < (f_X1_rank b) then (g) else (b)
set_option maxHeartbeats 4000000 in
set_option maxRecDepth 100000 in
theorem c_X1_lesser (l : Launch) (b : Int64) (g : Int64) : MetPl l yX1_lesser wsX1_lesser { frames := 1, cells := 0, slots := 0, locals := 21 } [.long b, .long g] (f_X1_lesser b g) := by
  refine en_Pl (cc := cX1_lesser) (maxL := 4) (ret := (some .long)) (by decide) rfl (Nat.le_of_ble_eq_true rfl) ?_
  intro p e st m below meth c ls hx hb hr hml hts hown hlk hl
  have hown : st.vm.findClass RX1 = some m.cls := hown
  have hl : lv_has ls 4 [(0, .long b), (2, .long g)] := hl
  refine lv_lload_n hx hb dX1_lesser_0 rfl (lv_at hl 0 rfl) ?_
  refine cl_Pl (c_X1_rank l _) ⟨hx, hb, hml, hown, hts⟩ (va_cwS 1 hts gX1_lesser_X1_rank rfl rfl rfl (by decide +kernel) ⟨Nat.le_of_ble_eq_true rfl, Nat.le_of_ble_eq_true rfl⟩) rfl hl.1 rfl (Nat.le_of_ble_eq_true rfl) (Nat.zero_le _) (Nat.zero_le _) dX1_lesser_1 ?_
  refine lv_lload_n hx hb dX1_lesser_4 rfl (lv_at hl 1 rfl) ?_
  refine cl_Pl (c_X1_rank l _) ⟨hx, hb, hml, hown, hts⟩ (va_cwS 1 hts gX1_lesser_X1_rank rfl rfl rfl (by decide +kernel) ⟨Nat.le_of_ble_eq_true rfl, Nat.le_of_ble_eq_true rfl⟩) rfl hl.1 rfl (Nat.le_of_ble_eq_true rfl) (Nat.zero_le _) (Nat.zero_le _) dX1_lesser_5 ?_
  refine W.lcmp hx hb dX1_lesser_8 ?_
  refine lv_if_gt (tgt := 16) hx hb dX1_lesser_9 (by decide) (fun c_9 => ?_) (fun c_9 => ?_)
  · have c_9 := (lg_cmp_gt _ _).mp c_9
    refine lv_lload_n hx hb dX1_lesser_16 rfl (lv_at hl 1 rfl) ?_
    exact rt_Pl hx hb hr hlk (Eq.symm (Eq.trans (if_pos c_9) (rfl))) dX1_lesser_17
  · have c_9 := mt (lg_cmp_gt _ _).mpr c_9
    refine lv_lload_n hx hb dX1_lesser_12 rfl (lv_at hl 0 rfl) ?_
    refine lv_goto (tgt := 17) hx hb dX1_lesser_13 (by decide) ?_
    exact rt_Pl hx hb hr hlk (Eq.symm (Eq.trans (if_neg c_9) (rfl))) dX1_lesser_17

def f_X1_shortGreater (b : Int32) (g : Int32) : Int32 := if (f_X1_shortRank b) < (f_X1_shortRank g) then (g) else (b)
set_option maxHeartbeats 4000000 in
set_option maxRecDepth 100000 in
theorem c_X1_shortGreater (l : Launch) (b : Int32) (g : Int32) : MetPi l yX1_shortGreater wsX1_shortGreater { frames := 1, cells := 0, slots := 0, locals := 20 } [.int b, .int g] (f_X1_shortGreater b g) := by
  refine en_Pi (cc := cX1_shortGreater) (maxL := 2) (ret := (some .int)) (by decide) rfl (Nat.le_of_ble_eq_true rfl) ?_
  intro p e st m below meth c ls hx hb hr hml hts hown hlk hl
  have hown : st.vm.findClass RX1 = some m.cls := hown
  have hl : lv_has ls 2 [(0, .int b), (1, .int g)] := hl
  refine lv_iload_n hx hb dX1_shortGreater_0 rfl (lv_at hl 0 rfl) ?_
  refine cl_Pi (c_X1_shortRank l _) ⟨hx, hb, hml, hown, hts⟩ (va_cwS 1 hts gX1_shortGreater_X1_shortRank rfl rfl rfl (by decide +kernel) ⟨Nat.le_of_ble_eq_true rfl, Nat.le_of_ble_eq_true rfl⟩) rfl hl.1 rfl (Nat.le_of_ble_eq_true rfl) (Nat.zero_le _) (Nat.zero_le _) dX1_shortGreater_1 ?_
  refine lv_iload_n hx hb dX1_shortGreater_4 rfl (lv_at hl 1 rfl) ?_
  refine cl_Pi (c_X1_shortRank l _) ⟨hx, hb, hml, hown, hts⟩ (va_cwS 1 hts gX1_shortGreater_X1_shortRank rfl rfl rfl (by decide +kernel) ⟨Nat.le_of_ble_eq_true rfl, Nat.le_of_ble_eq_true rfl⟩) rfl hl.1 rfl (Nat.le_of_ble_eq_true rfl) (Nat.zero_le _) (Nat.zero_le _) dX1_shortGreater_5 ?_
  refine lv_icmp_lt (tgt := 15) hx hb dX1_shortGreater_8 (by decide) (fun c_8 => ?_) (fun c_8 => ?_)
  · refine lv_iload_n hx hb dX1_shortGreater_15 rfl (lv_at hl 1 rfl) ?_
    exact rt_Pi hx hb hr hlk (Eq.symm (Eq.trans (if_pos c_8) (rfl))) dX1_shortGreater_16
  · refine lv_iload_n hx hb dX1_shortGreater_11 rfl (lv_at hl 0 rfl) ?_
    refine lv_goto (tgt := 16) hx hb dX1_shortGreater_12 (by decide) ?_
    exact rt_Pi hx hb hr hlk (Eq.symm (Eq.trans (if_neg c_8) (rfl))) dX1_shortGreater_16

def f_X1_shortLesser (b : Int32) (g : Int32) : Int32 := if (f_X1_shortRank g) < (f_X1_shortRank b) then (g) else (b)
set_option maxHeartbeats 4000000 in
set_option maxRecDepth 100000 in
theorem c_X1_shortLesser (l : Launch) (b : Int32) (g : Int32) : MetPi l yX1_shortLesser wsX1_shortLesser { frames := 1, cells := 0, slots := 0, locals := 20 } [.int b, .int g] (f_X1_shortLesser b g) := by
  refine en_Pi (cc := cX1_shortLesser) (maxL := 2) (ret := (some .int)) (by decide) rfl (Nat.le_of_ble_eq_true rfl) ?_
  intro p e st m below meth c ls hx hb hr hml hts hown hlk hl
  have hown : st.vm.findClass RX1 = some m.cls := hown
  have hl : lv_has ls 2 [(0, .int b), (1, .int g)] := hl
  refine lv_iload_n hx hb dX1_shortLesser_0 rfl (lv_at hl 0 rfl) ?_
  refine cl_Pi (c_X1_shortRank l _) ⟨hx, hb, hml, hown, hts⟩ (va_cwS 1 hts gX1_shortLesser_X1_shortRank rfl rfl rfl (by decide +kernel) ⟨Nat.le_of_ble_eq_true rfl, Nat.le_of_ble_eq_true rfl⟩) rfl hl.1 rfl (Nat.le_of_ble_eq_true rfl) (Nat.zero_le _) (Nat.zero_le _) dX1_shortLesser_1 ?_
  refine lv_iload_n hx hb dX1_shortLesser_4 rfl (lv_at hl 1 rfl) ?_
  refine cl_Pi (c_X1_shortRank l _) ⟨hx, hb, hml, hown, hts⟩ (va_cwS 1 hts gX1_shortLesser_X1_shortRank rfl rfl rfl (by decide +kernel) ⟨Nat.le_of_ble_eq_true rfl, Nat.le_of_ble_eq_true rfl⟩) rfl hl.1 rfl (Nat.le_of_ble_eq_true rfl) (Nat.zero_le _) (Nat.zero_le _) dX1_shortLesser_5 ?_
  refine lv_icmp_gt (tgt := 15) hx hb dX1_shortLesser_8 (by decide) (fun c_8 => ?_) (fun c_8 => ?_)
  · refine lv_iload_n hx hb dX1_shortLesser_15 rfl (lv_at hl 1 rfl) ?_
    exact rt_Pi hx hb hr hlk (Eq.symm (Eq.trans (if_pos c_8) (rfl))) dX1_shortLesser_16
  · refine lv_iload_n hx hb dX1_shortLesser_11 rfl (lv_at hl 0 rfl) ?_
    refine lv_goto (tgt := 16) hx hb dX1_shortLesser_12 (by decide) ?_
    exact rt_Pi hx hb hr hlk (Eq.symm (Eq.trans (if_neg c_8) (rfl))) dX1_shortLesser_16

def f_X1_power (b : Int64) (n : Int32) (k : Int32) : Int32 := (Int64.toInt32 (b >>> (Int32.toInt64 n &&& 63))) - k
set_option maxHeartbeats 4000000 in
set_option maxRecDepth 100000 in
theorem c_X1_power (l : Launch) (b : Int64) (n : Int32) (k : Int32) : MetPi l yX1_power wsX1_power { frames := 0, cells := 0, slots := 0, locals := 0 } [.long b, .int n, .int k] (f_X1_power b n k) := by
  refine en_Pi (cc := cX1_power) (maxL := 4) (ret := (some .int)) (by decide) rfl (Nat.le_of_ble_eq_true rfl) ?_
  intro p e st m below meth c ls hx hb hr hml hts hown hlk hl
  have hown : st.vm.findClass RX1 = some m.cls := hown
  have hl : lv_has ls 4 [(0, .long b), (2, .int n), (3, .int k)] := hl
  refine lv_lload_n hx hb dX1_power_0 rfl (lv_at hl 0 rfl) ?_
  refine lv_iload_n hx hb dX1_power_1 rfl (lv_at hl 1 rfl) ?_
  refine lv_lshr hx hb dX1_power_2 rfl ?_
  refine lv_l2i hx hb dX1_power_3 rfl ?_
  refine lv_iload_n hx hb dX1_power_4 rfl (lv_at hl 2 rfl) ?_
  refine lv_isub hx hb dX1_power_5 ?_
  exact rt_Pi hx hb hr hlk (Eq.symm (rfl)) dX1_power_6

def f_X1_wholeBelow (b : Int64) (n : Int32) (k : Int32) : Int64 := let x1 := f_X1_power b n k; if 0 ≤ x1 then (if x1 < n then (b &&& (-(1 <<< (Int32.toInt64 (n - x1) &&& 63)))) else (b)) else (0)
set_option maxHeartbeats 4000000 in
set_option maxRecDepth 100000 in
theorem c_X1_wholeBelow (l : Launch) (b : Int64) (n : Int32) (k : Int32) : MetPl l yX1_wholeBelow wsX1_wholeBelow { frames := 1, cells := 0, slots := 0, locals := 23 } [.long b, .int n, .int k] (f_X1_wholeBelow b n k) := by
  refine en_Pl (cc := cX1_wholeBelow) (maxL := 5) (ret := (some .long)) (by decide) rfl (Nat.le_of_ble_eq_true rfl) ?_
  intro p e st m below meth c ls hx hb hr hml hts hown hlk hl
  have hown : st.vm.findClass RX1 = some m.cls := hown
  have hl : lv_has ls 5 [(0, .long b), (2, .int n), (3, .int k)] := hl
  refine lv_lload_n hx hb dX1_wholeBelow_0 rfl (lv_at hl 0 rfl) ?_
  refine lv_iload_n hx hb dX1_wholeBelow_1 rfl (lv_at hl 1 rfl) ?_
  refine lv_iload_n hx hb dX1_wholeBelow_2 rfl (lv_at hl 2 rfl) ?_
  refine cl_Pi (c_X1_power l _ _ _) ⟨hx, hb, hml, hown, hts⟩ (va_cwS 3 hts gX1_wholeBelow_X1_power rfl rfl rfl (by decide +kernel) ⟨Nat.le_of_ble_eq_true rfl, Nat.le_of_ble_eq_true rfl⟩) rfl hl.1 rfl (Nat.le_of_ble_eq_true rfl) (Nat.zero_le _) (Nat.zero_le _) dX1_wholeBelow_3 ?_
  refine tpi (fun x1 ex1 => ?_)
  refine lv_istore (lv' := [(4, .int x1), (0, .long b), (2, .int n), (3, .int k)]) hx hb dX1_wholeBelow_6 hl (by decide) rfl (fun ls hl => ?_)
  refine lv_iload hx hb dX1_wholeBelow_8 (lv_at hl 0 rfl) ?_
  refine lv_if_ge (tgt := 15) hx hb dX1_wholeBelow_10 (by decide) (fun c_10 => ?_) (fun c_10 => ?_)
  · refine lv_iload hx hb dX1_wholeBelow_15 (lv_at hl 0 rfl) ?_
    refine lv_iload_n hx hb dX1_wholeBelow_17 rfl (lv_at hl 2 rfl) ?_
    refine lv_icmp_lt (tgt := 25) hx hb dX1_wholeBelow_18 (by decide) (fun c_18 => ?_) (fun c_18 => ?_)
    · refine lv_lload_n hx hb dX1_wholeBelow_25 rfl (lv_at hl 1 rfl) ?_
      refine lv_lconst (v := 1) hx hb dX1_wholeBelow_26 (by decide) ?_
      refine lv_iload_n hx hb dX1_wholeBelow_27 rfl (lv_at hl 2 rfl) ?_
      refine lv_iload hx hb dX1_wholeBelow_28 (lv_at hl 0 rfl) ?_
      refine lv_isub hx hb dX1_wholeBelow_30 ?_
      refine lv_lshl hx hb dX1_wholeBelow_31 rfl ?_
      refine lv_lneg hx hb dX1_wholeBelow_32 ?_
      refine lv_land hx hb dX1_wholeBelow_33 ?_
      subst ex1
      exact rt_Pl hx hb hr hlk (Eq.symm (Eq.trans (if_pos c_10) (Eq.trans (if_pos c_18) (rfl)))) dX1_wholeBelow_34
    · refine lv_lload_n hx hb dX1_wholeBelow_21 rfl (lv_at hl 1 rfl) ?_
      refine lv_goto (tgt := 34) hx hb dX1_wholeBelow_22 (by decide) ?_
      subst ex1
      exact rt_Pl hx hb hr hlk (Eq.symm (Eq.trans (if_pos c_10) (Eq.trans (if_neg c_18) (rfl)))) dX1_wholeBelow_34
  · refine lv_lconst (v := 0) hx hb dX1_wholeBelow_13 (by decide) ?_
    subst ex1
    exact rt_Pl hx hb hr hlk (Eq.symm (Eq.trans (if_neg c_10) (rfl))) dX1_wholeBelow_14

def f_X1_nextWhole (b : Int64) (n : Int32) (k : Int32) : Int64 := if b = 0 then ((Int32.toInt64 k) <<< (Int32.toInt64 n &&& 63)) else (b + (1 <<< (Int32.toInt64 (n - (f_X1_power b n k)) &&& 63)))
set_option maxHeartbeats 4000000 in
set_option maxRecDepth 100000 in
theorem c_X1_nextWhole (l : Launch) (b : Int64) (n : Int32) (k : Int32) : MetPl l yX1_nextWhole wsX1_nextWhole { frames := 1, cells := 0, slots := 0, locals := 23 } [.long b, .int n, .int k] (f_X1_nextWhole b n k) := by
  refine en_Pl (cc := cX1_nextWhole) (maxL := 4) (ret := (some .long)) (by decide) rfl (Nat.le_of_ble_eq_true rfl) ?_
  intro p e st m below meth c ls hx hb hr hml hts hown hlk hl
  have hown : st.vm.findClass RX1 = some m.cls := hown
  have hl : lv_has ls 4 [(0, .long b), (2, .int n), (3, .int k)] := hl
  refine lv_lload_n hx hb dX1_nextWhole_0 rfl (lv_at hl 0 rfl) ?_
  refine lv_lconst (v := 0) hx hb dX1_nextWhole_1 (by decide) ?_
  refine W.lcmp hx hb dX1_nextWhole_2 ?_
  refine lv_if_ne (tgt := 11) hx hb dX1_nextWhole_3 (by decide) (fun c_3 => ?_) (fun c_3 => ?_)
  · have c_3 := mt (lg_cmp_eq _ _).mpr c_3
    refine lv_lload_n hx hb dX1_nextWhole_11 rfl (lv_at hl 0 rfl) ?_
    refine lv_lconst (v := 1) hx hb dX1_nextWhole_12 (by decide) ?_
    refine lv_iload_n hx hb dX1_nextWhole_13 rfl (lv_at hl 1 rfl) ?_
    refine lv_lload_n hx hb dX1_nextWhole_14 rfl (lv_at hl 0 rfl) ?_
    refine lv_iload_n hx hb dX1_nextWhole_15 rfl (lv_at hl 1 rfl) ?_
    refine lv_iload_n hx hb dX1_nextWhole_16 rfl (lv_at hl 2 rfl) ?_
    refine cl_Pi (c_X1_power l _ _ _) ⟨hx, hb, hml, hown, hts⟩ (va_cwS 3 hts gX1_nextWhole_X1_power rfl rfl rfl (by decide +kernel) ⟨Nat.le_of_ble_eq_true rfl, Nat.le_of_ble_eq_true rfl⟩) rfl hl.1 rfl (Nat.le_of_ble_eq_true rfl) (Nat.zero_le _) (Nat.zero_le _) dX1_nextWhole_17 ?_
    refine lv_isub hx hb dX1_nextWhole_20 ?_
    refine lv_lshl hx hb dX1_nextWhole_21 rfl ?_
    refine lv_ladd hx hb dX1_nextWhole_22 ?_
    exact rt_Pl hx hb hr hlk (Eq.symm (Eq.trans (if_neg c_3) (rfl))) dX1_nextWhole_23
  · have c_3 := (lg_cmp_eq _ _).mp c_3
    refine lv_iload_n hx hb dX1_nextWhole_6 rfl (lv_at hl 2 rfl) ?_
    refine lv_i2l hx hb dX1_nextWhole_7 rfl ?_
    refine lv_iload_n hx hb dX1_nextWhole_8 rfl (lv_at hl 1 rfl) ?_
    refine lv_lshl hx hb dX1_nextWhole_9 rfl ?_
    exact rt_Pl hx hb hr hlk (Eq.symm (Eq.trans (if_pos c_3) (rfl))) dX1_nextWhole_10

def f_X1_wholeAbove (b : Int64) (n : Int32) (k : Int32) : Int64 := let x1 := f_X1_wholeBelow b n k; if x1 = b then (b) else (f_X1_nextWhole x1 n k)
set_option maxHeartbeats 4000000 in
set_option maxRecDepth 100000 in
theorem c_X1_wholeAbove (l : Launch) (b : Int64) (n : Int32) (k : Int32) : MetPl l yX1_wholeAbove wsX1_wholeAbove { frames := 2, cells := 0, slots := 0, locals := 47 } [.long b, .int n, .int k] (f_X1_wholeAbove b n k) := by
  refine en_Pl (cc := cX1_wholeAbove) (maxL := 6) (ret := (some .long)) (by decide) rfl (Nat.le_of_ble_eq_true rfl) ?_
  intro p e st m below meth c ls hx hb hr hml hts hown hlk hl
  have hown : st.vm.findClass RX1 = some m.cls := hown
  have hl : lv_has ls 6 [(0, .long b), (2, .int n), (3, .int k)] := hl
  refine lv_lload_n hx hb dX1_wholeAbove_0 rfl (lv_at hl 0 rfl) ?_
  refine lv_iload_n hx hb dX1_wholeAbove_1 rfl (lv_at hl 1 rfl) ?_
  refine lv_iload_n hx hb dX1_wholeAbove_2 rfl (lv_at hl 2 rfl) ?_
  refine cl_Pl (c_X1_wholeBelow l _ _ _) ⟨hx, hb, hml, hown, hts⟩ (va_cwS 3 hts gX1_wholeAbove_X1_wholeBelow rfl rfl rfl (by decide +kernel) ⟨Nat.le_of_ble_eq_true rfl, Nat.le_of_ble_eq_true rfl⟩) rfl hl.1 rfl (Nat.le_of_ble_eq_true rfl) (Nat.zero_le _) (Nat.zero_le _) dX1_wholeAbove_3 ?_
  refine tpl (fun x1 ex1 => ?_)
  refine lv_lstore (lv' := [(4, .long x1), (0, .long b), (2, .int n), (3, .int k)]) hx hb dX1_wholeAbove_6 hl (by decide) rfl (fun ls hl => ?_)
  refine lv_lload hx hb dX1_wholeAbove_8 (lv_at hl 0 rfl) ?_
  refine lv_lload_n hx hb dX1_wholeAbove_10 rfl (lv_at hl 1 rfl) ?_
  refine W.lcmp hx hb dX1_wholeAbove_11 ?_
  refine lv_if_ne (tgt := 19) hx hb dX1_wholeAbove_12 (by decide) (fun c_12 => ?_) (fun c_12 => ?_)
  · have c_12 := mt (lg_cmp_eq _ _).mpr c_12
    refine lv_lload hx hb dX1_wholeAbove_19 (lv_at hl 0 rfl) ?_
    refine lv_iload_n hx hb dX1_wholeAbove_21 rfl (lv_at hl 2 rfl) ?_
    refine lv_iload_n hx hb dX1_wholeAbove_22 rfl (lv_at hl 3 rfl) ?_
    refine cl_Pl (c_X1_nextWhole l _ _ _) ⟨hx, hb, hml, hown, hts⟩ (va_cwS 3 hts gX1_wholeAbove_X1_nextWhole rfl rfl rfl (by decide +kernel) ⟨Nat.le_of_ble_eq_true rfl, Nat.le_of_ble_eq_true rfl⟩) rfl hl.1 rfl (Nat.le_of_ble_eq_true rfl) (Nat.zero_le _) (Nat.zero_le _) dX1_wholeAbove_23 ?_
    subst ex1
    exact rt_Pl hx hb hr hlk (Eq.symm (Eq.trans (if_neg c_12) (rfl))) dX1_wholeAbove_26
  · have c_12 := (lg_cmp_eq _ _).mp c_12
    refine lv_lload_n hx hb dX1_wholeAbove_15 rfl (lv_at hl 1 rfl) ?_
    refine lv_goto (tgt := 26) hx hb dX1_wholeAbove_16 (by decide) ?_
    subst ex1
    exact rt_Pl hx hb hr hlk (Eq.symm (Eq.trans (if_pos c_12) (rfl))) dX1_wholeAbove_26

def f_X1_wholeNear (b : Int64) (n : Int32) (k : Int32) : Int64 := let x1 := f_X1_wholeBelow b n k; if x1 = b then (b) else (let x2 := f_X1_power b n k; if 0 ≤ x2 then (let x3 := 1 <<< (Int32.toInt64 (n - x2) &&& 63); let x4 := (b - x1) - (x3 >>> (Int32.toInt64 1 &&& 63)); if (x1 &&& x3) = 0 then (if x4 < 0 then (x1) else (if x4 = 0 then (x1) else (f_X1_nextWhole x1 n k))) else (if x4 < 0 then (x1) else (if x4 = 0 then (f_X1_nextWhole x1 n k) else (f_X1_nextWhole x1 n k)))) else (let x13 := (Int32.toInt64 (k - 1)) <<< (Int32.toInt64 n &&& 63); if x13 < b then (f_X1_nextWhole 0 n k) else (0)))
set_option maxHeartbeats 4000000 in
set_option maxRecDepth 100000 in
theorem c_X1_wholeNear (l : Launch) (b : Int64) (n : Int32) (k : Int32) : MetPl l yX1_wholeNear wsX1_wholeNear { frames := 2, cells := 0, slots := 0, locals := 47 } [.long b, .int n, .int k] (f_X1_wholeNear b n k) := by
  refine en_Pl (cc := cX1_wholeNear) (maxL := 13) (ret := (some .long)) (by decide) rfl (Nat.le_of_ble_eq_true rfl) ?_
  intro p e st m below meth c ls hx hb hr hml hts hown hlk hl
  have hown : st.vm.findClass RX1 = some m.cls := hown
  have hl : lv_has ls 13 [(0, .long b), (2, .int n), (3, .int k)] := hl
  refine lv_lload_n hx hb dX1_wholeNear_0 rfl (lv_at hl 0 rfl) ?_
  refine lv_iload_n hx hb dX1_wholeNear_1 rfl (lv_at hl 1 rfl) ?_
  refine lv_iload_n hx hb dX1_wholeNear_2 rfl (lv_at hl 2 rfl) ?_
  refine cl_Pl (c_X1_wholeBelow l _ _ _) ⟨hx, hb, hml, hown, hts⟩ (va_cwS 3 hts gX1_wholeNear_X1_wholeBelow rfl rfl rfl (by decide +kernel) ⟨Nat.le_of_ble_eq_true rfl, Nat.le_of_ble_eq_true rfl⟩) rfl hl.1 rfl (Nat.le_of_ble_eq_true rfl) (Nat.zero_le _) (Nat.zero_le _) dX1_wholeNear_3 ?_
  refine tpl (fun x1 ex1 => ?_)
  refine lv_lstore (lv' := [(4, .long x1), (0, .long b), (2, .int n), (3, .int k)]) hx hb dX1_wholeNear_6 hl (by decide) rfl (fun ls hl => ?_)
  refine lv_lload hx hb dX1_wholeNear_8 (lv_at hl 0 rfl) ?_
  refine lv_lload_n hx hb dX1_wholeNear_10 rfl (lv_at hl 1 rfl) ?_
  refine W.lcmp hx hb dX1_wholeNear_11 ?_
  refine lv_if_ne (tgt := 17) hx hb dX1_wholeNear_12 (by decide) (fun c_12 => ?_) (fun c_12 => ?_)
  · have c_12 := mt (lg_cmp_eq _ _).mpr c_12
    refine lv_lload_n hx hb dX1_wholeNear_17 rfl (lv_at hl 1 rfl) ?_
    refine lv_iload_n hx hb dX1_wholeNear_18 rfl (lv_at hl 2 rfl) ?_
    refine lv_iload_n hx hb dX1_wholeNear_19 rfl (lv_at hl 3 rfl) ?_
    refine cl_Pi (c_X1_power l _ _ _) ⟨hx, hb, hml, hown, hts⟩ (va_cwS 3 hts gX1_wholeNear_X1_power rfl rfl rfl (by decide +kernel) ⟨Nat.le_of_ble_eq_true rfl, Nat.le_of_ble_eq_true rfl⟩) rfl hl.1 rfl (Nat.le_of_ble_eq_true rfl) (Nat.zero_le _) (Nat.zero_le _) dX1_wholeNear_20 ?_
    refine tpi (fun x2 ex2 => ?_)
    refine lv_istore (lv' := [(6, .int x2), (4, .long x1), (0, .long b), (2, .int n), (3, .int k)]) hx hb dX1_wholeNear_23 hl (by decide) rfl (fun ls hl => ?_)
    refine lv_iload hx hb dX1_wholeNear_25 (lv_at hl 0 rfl) ?_
    refine lv_if_ge (tgt := 56) hx hb dX1_wholeNear_27 (by decide) (fun c_27 => ?_) (fun c_27 => ?_)
    · refine lv_lconst (v := 1) hx hb dX1_wholeNear_56 (by decide) ?_
      refine lv_iload_n hx hb dX1_wholeNear_57 rfl (lv_at hl 3 rfl) ?_
      refine lv_iload hx hb dX1_wholeNear_58 (lv_at hl 0 rfl) ?_
      refine lv_isub hx hb dX1_wholeNear_60 ?_
      refine lv_lshl hx hb dX1_wholeNear_61 rfl ?_
      refine tpl (fun x3 ex3 => ?_)
      refine lv_lstore (lv' := [(7, .long x3), (6, .int x2), (4, .long x1), (0, .long b), (2, .int n), (3, .int k)]) hx hb dX1_wholeNear_62 hl (by decide) rfl (fun ls hl => ?_)
      refine lv_lload_n hx hb dX1_wholeNear_64 rfl (lv_at hl 3 rfl) ?_
      refine lv_lload hx hb dX1_wholeNear_65 (lv_at hl 2 rfl) ?_
      refine lv_lsub hx hb dX1_wholeNear_67 ?_
      refine lv_lload hx hb dX1_wholeNear_68 (lv_at hl 0 rfl) ?_
      refine lv_iconst (v := 1) hx hb dX1_wholeNear_70 (by decide) ?_
      refine lv_lshr hx hb dX1_wholeNear_71 rfl ?_
      refine lv_lsub hx hb dX1_wholeNear_72 ?_
      refine tpl (fun x4 ex4 => ?_)
      refine lv_lstore (lv' := [(9, .long x4), (7, .long x3), (6, .int x2), (4, .long x1), (0, .long b), (2, .int n), (3, .int k)]) hx hb dX1_wholeNear_73 hl (by decide) rfl (fun ls hl => ?_)
      refine lv_lload hx hb dX1_wholeNear_75 (lv_at hl 3 rfl) ?_
      refine lv_lload hx hb dX1_wholeNear_77 (lv_at hl 1 rfl) ?_
      refine lv_land hx hb dX1_wholeNear_79 ?_
      refine lv_lconst (v := 0) hx hb dX1_wholeNear_80 (by decide) ?_
      refine W.lcmp hx hb dX1_wholeNear_81 ?_
      refine lv_if_ne (tgt := 89) hx hb dX1_wholeNear_82 (by decide) (fun c_82 => ?_) (fun c_82 => ?_)
      · have c_82 := mt (lg_cmp_eq _ _).mpr c_82
        refine lv_iconst (v := 0) hx hb dX1_wholeNear_89 (by decide) ?_
        refine lv_istore (lv' := [(11, .int 0), (9, .long x4), (7, .long x3), (6, .int x2), (4, .long x1), (0, .long b), (2, .int n), (3, .int k)]) hx hb dX1_wholeNear_90 hl (by decide) rfl (fun ls hl => ?_)
        refine lv_lload hx hb dX1_wholeNear_92 (lv_at hl 1 rfl) ?_
        refine lv_lconst (v := 0) hx hb dX1_wholeNear_94 (by decide) ?_
        refine W.lcmp hx hb dX1_wholeNear_95 ?_
        refine lv_if_lt (tgt := 111) hx hb dX1_wholeNear_96 (by decide) (fun c_96 => ?_) (fun c_96 => ?_)
        · have c_96 := (lg_cmp_lt _ _).mp c_96
          refine lv_iconst (v := 1) hx hb dX1_wholeNear_111 (by decide) ?_
          refine lv_goto (tgt := 116) hx hb dX1_wholeNear_112 (by decide) ?_
          refine lv_istore (lv' := [(12, .int 1), (11, .int 0), (9, .long x4), (7, .long x3), (6, .int x2), (4, .long x1), (0, .long b), (2, .int n), (3, .int k)]) hx hb dX1_wholeNear_116 hl (by decide) rfl (fun ls hl => ?_)
          refine lv_iload hx hb dX1_wholeNear_118 (lv_at hl 0 rfl) ?_
          refine lv_if_eq (tgt := 128) hx hb dX1_wholeNear_120 (by decide) (fun c5 => absurd (show (1 : Int32) = (0 : Int32) from c5) (by decide)) (fun c5 => ?_)
          refine lv_lload hx hb dX1_wholeNear_123 (lv_at hl 5 rfl) ?_
          refine lv_goto (tgt := 135) hx hb dX1_wholeNear_125 (by decide) ?_
          subst ex4 ex3 ex2 ex1
          exact rt_Pl hx hb hr hlk (Eq.symm (Eq.trans (if_neg c_12) (Eq.trans (if_pos c_27) (Eq.trans (if_neg c_82) (Eq.trans (if_pos c_96) (rfl)))))) dX1_wholeNear_135
        · have c_96 := mt (lg_cmp_lt _ _).mpr c_96
          refine lv_lload hx hb dX1_wholeNear_99 (lv_at hl 1 rfl) ?_
          refine lv_lconst (v := 0) hx hb dX1_wholeNear_101 (by decide) ?_
          refine W.lcmp hx hb dX1_wholeNear_102 ?_
          refine lv_if_ne (tgt := 115) hx hb dX1_wholeNear_103 (by decide) (fun c_103 => ?_) (fun c_103 => ?_)
          · have c_103 := mt (lg_cmp_eq _ _).mpr c_103
            refine lv_iconst (v := 0) hx hb dX1_wholeNear_115 (by decide) ?_
            refine lv_istore (lv' := [(12, .int 0), (11, .int 0), (9, .long x4), (7, .long x3), (6, .int x2), (4, .long x1), (0, .long b), (2, .int n), (3, .int k)]) hx hb dX1_wholeNear_116 hl (by decide) rfl (fun ls hl => ?_)
            refine lv_iload hx hb dX1_wholeNear_118 (lv_at hl 0 rfl) ?_
            refine lv_if_eq (tgt := 128) hx hb dX1_wholeNear_120 (by decide) (fun c6 => ?_) (fun c6 => absurd (show (0 : Int32) = (0 : Int32) by decide) (show ¬ (0 : Int32) = (0 : Int32) from c6))
            refine lv_lload hx hb dX1_wholeNear_128 (lv_at hl 5 rfl) ?_
            refine lv_iload_n hx hb dX1_wholeNear_130 rfl (lv_at hl 7 rfl) ?_
            refine lv_iload_n hx hb dX1_wholeNear_131 rfl (lv_at hl 8 rfl) ?_
            refine cl_Pl (c_X1_nextWhole l _ _ _) ⟨hx, hb, hml, hown, hts⟩ (va_cwS 3 hts gX1_wholeNear_X1_nextWhole rfl rfl rfl (by decide +kernel) ⟨Nat.le_of_ble_eq_true rfl, Nat.le_of_ble_eq_true rfl⟩) rfl hl.1 rfl (Nat.le_of_ble_eq_true rfl) (Nat.zero_le _) (Nat.zero_le _) dX1_wholeNear_132 ?_
            subst ex4 ex3 ex2 ex1
            exact rt_Pl hx hb hr hlk (Eq.symm (Eq.trans (if_neg c_12) (Eq.trans (if_pos c_27) (Eq.trans (if_neg c_82) (Eq.trans (if_neg c_96) (Eq.trans (if_neg c_103) (rfl))))))) dX1_wholeNear_135
          · have c_103 := (lg_cmp_eq _ _).mp c_103
            refine lv_iload hx hb dX1_wholeNear_106 (lv_at hl 0 rfl) ?_
            refine lv_if_eq (tgt := 115) hx hb dX1_wholeNear_108 (by decide) (fun c7 => ?_) (fun c7 => absurd (show (0 : Int32) = (0 : Int32) by decide) (show ¬ (0 : Int32) = (0 : Int32) from c7))
            refine lv_iconst (v := 0) hx hb dX1_wholeNear_115 (by decide) ?_
            refine lv_istore (lv' := [(12, .int 0), (11, .int 0), (9, .long x4), (7, .long x3), (6, .int x2), (4, .long x1), (0, .long b), (2, .int n), (3, .int k)]) hx hb dX1_wholeNear_116 hl (by decide) rfl (fun ls hl => ?_)
            refine lv_iload hx hb dX1_wholeNear_118 (lv_at hl 0 rfl) ?_
            refine lv_if_eq (tgt := 128) hx hb dX1_wholeNear_120 (by decide) (fun c8 => ?_) (fun c8 => absurd (show (0 : Int32) = (0 : Int32) by decide) (show ¬ (0 : Int32) = (0 : Int32) from c8))
            refine lv_lload hx hb dX1_wholeNear_128 (lv_at hl 5 rfl) ?_
            refine lv_iload_n hx hb dX1_wholeNear_130 rfl (lv_at hl 7 rfl) ?_
            refine lv_iload_n hx hb dX1_wholeNear_131 rfl (lv_at hl 8 rfl) ?_
            refine cl_Pl (c_X1_nextWhole l _ _ _) ⟨hx, hb, hml, hown, hts⟩ (va_cwS 3 hts gX1_wholeNear_X1_nextWhole rfl rfl rfl (by decide +kernel) ⟨Nat.le_of_ble_eq_true rfl, Nat.le_of_ble_eq_true rfl⟩) rfl hl.1 rfl (Nat.le_of_ble_eq_true rfl) (Nat.zero_le _) (Nat.zero_le _) dX1_wholeNear_132 ?_
            subst ex4 ex3 ex2 ex1
            exact rt_Pl hx hb hr hlk (Eq.symm (Eq.trans (if_neg c_12) (Eq.trans (if_pos c_27) (Eq.trans (if_neg c_82) (Eq.trans (if_neg c_96) (Eq.trans (if_pos c_103) (rfl))))))) dX1_wholeNear_135
      · have c_82 := (lg_cmp_eq _ _).mp c_82
        refine lv_iconst (v := 1) hx hb dX1_wholeNear_85 (by decide) ?_
        refine lv_goto (tgt := 90) hx hb dX1_wholeNear_86 (by decide) ?_
        refine lv_istore (lv' := [(11, .int 1), (9, .long x4), (7, .long x3), (6, .int x2), (4, .long x1), (0, .long b), (2, .int n), (3, .int k)]) hx hb dX1_wholeNear_90 hl (by decide) rfl (fun ls hl => ?_)
        refine lv_lload hx hb dX1_wholeNear_92 (lv_at hl 1 rfl) ?_
        refine lv_lconst (v := 0) hx hb dX1_wholeNear_94 (by decide) ?_
        refine W.lcmp hx hb dX1_wholeNear_95 ?_
        refine lv_if_lt (tgt := 111) hx hb dX1_wholeNear_96 (by decide) (fun c_96 => ?_) (fun c_96 => ?_)
        · have c_96 := (lg_cmp_lt _ _).mp c_96
          refine lv_iconst (v := 1) hx hb dX1_wholeNear_111 (by decide) ?_
          refine lv_goto (tgt := 116) hx hb dX1_wholeNear_112 (by decide) ?_
          refine lv_istore (lv' := [(12, .int 1), (11, .int 1), (9, .long x4), (7, .long x3), (6, .int x2), (4, .long x1), (0, .long b), (2, .int n), (3, .int k)]) hx hb dX1_wholeNear_116 hl (by decide) rfl (fun ls hl => ?_)
          refine lv_iload hx hb dX1_wholeNear_118 (lv_at hl 0 rfl) ?_
          refine lv_if_eq (tgt := 128) hx hb dX1_wholeNear_120 (by decide) (fun c9 => absurd (show (1 : Int32) = (0 : Int32) from c9) (by decide)) (fun c9 => ?_)
          refine lv_lload hx hb dX1_wholeNear_123 (lv_at hl 5 rfl) ?_
          refine lv_goto (tgt := 135) hx hb dX1_wholeNear_125 (by decide) ?_
          subst ex4 ex3 ex2 ex1
          exact rt_Pl hx hb hr hlk (Eq.symm (Eq.trans (if_neg c_12) (Eq.trans (if_pos c_27) (Eq.trans (if_pos c_82) (Eq.trans (if_pos c_96) (rfl)))))) dX1_wholeNear_135
        · have c_96 := mt (lg_cmp_lt _ _).mpr c_96
          refine lv_lload hx hb dX1_wholeNear_99 (lv_at hl 1 rfl) ?_
          refine lv_lconst (v := 0) hx hb dX1_wholeNear_101 (by decide) ?_
          refine W.lcmp hx hb dX1_wholeNear_102 ?_
          refine lv_if_ne (tgt := 115) hx hb dX1_wholeNear_103 (by decide) (fun c_103 => ?_) (fun c_103 => ?_)
          · have c_103 := mt (lg_cmp_eq _ _).mpr c_103
            refine lv_iconst (v := 0) hx hb dX1_wholeNear_115 (by decide) ?_
            refine lv_istore (lv' := [(12, .int 0), (11, .int 1), (9, .long x4), (7, .long x3), (6, .int x2), (4, .long x1), (0, .long b), (2, .int n), (3, .int k)]) hx hb dX1_wholeNear_116 hl (by decide) rfl (fun ls hl => ?_)
            refine lv_iload hx hb dX1_wholeNear_118 (lv_at hl 0 rfl) ?_
            refine lv_if_eq (tgt := 128) hx hb dX1_wholeNear_120 (by decide) (fun c10 => ?_) (fun c10 => absurd (show (0 : Int32) = (0 : Int32) by decide) (show ¬ (0 : Int32) = (0 : Int32) from c10))
            refine lv_lload hx hb dX1_wholeNear_128 (lv_at hl 5 rfl) ?_
            refine lv_iload_n hx hb dX1_wholeNear_130 rfl (lv_at hl 7 rfl) ?_
            refine lv_iload_n hx hb dX1_wholeNear_131 rfl (lv_at hl 8 rfl) ?_
            refine cl_Pl (c_X1_nextWhole l _ _ _) ⟨hx, hb, hml, hown, hts⟩ (va_cwS 3 hts gX1_wholeNear_X1_nextWhole rfl rfl rfl (by decide +kernel) ⟨Nat.le_of_ble_eq_true rfl, Nat.le_of_ble_eq_true rfl⟩) rfl hl.1 rfl (Nat.le_of_ble_eq_true rfl) (Nat.zero_le _) (Nat.zero_le _) dX1_wholeNear_132 ?_
            subst ex4 ex3 ex2 ex1
            exact rt_Pl hx hb hr hlk (Eq.symm (Eq.trans (if_neg c_12) (Eq.trans (if_pos c_27) (Eq.trans (if_pos c_82) (Eq.trans (if_neg c_96) (Eq.trans (if_neg c_103) (rfl))))))) dX1_wholeNear_135
          · have c_103 := (lg_cmp_eq _ _).mp c_103
            refine lv_iload hx hb dX1_wholeNear_106 (lv_at hl 0 rfl) ?_
            refine lv_if_eq (tgt := 115) hx hb dX1_wholeNear_108 (by decide) (fun c11 => absurd (show (1 : Int32) = (0 : Int32) from c11) (by decide)) (fun c11 => ?_)
            refine lv_iconst (v := 1) hx hb dX1_wholeNear_111 (by decide) ?_
            refine lv_goto (tgt := 116) hx hb dX1_wholeNear_112 (by decide) ?_
            refine lv_istore (lv' := [(12, .int 1), (11, .int 1), (9, .long x4), (7, .long x3), (6, .int x2), (4, .long x1), (0, .long b), (2, .int n), (3, .int k)]) hx hb dX1_wholeNear_116 hl (by decide) rfl (fun ls hl => ?_)
            refine lv_iload hx hb dX1_wholeNear_118 (lv_at hl 0 rfl) ?_
            refine lv_if_eq (tgt := 128) hx hb dX1_wholeNear_120 (by decide) (fun c12 => absurd (show (1 : Int32) = (0 : Int32) from c12) (by decide)) (fun c12 => ?_)
            refine lv_lload hx hb dX1_wholeNear_123 (lv_at hl 5 rfl) ?_
            refine lv_goto (tgt := 135) hx hb dX1_wholeNear_125 (by decide) ?_
            subst ex4 ex3 ex2 ex1
            exact rt_Pl hx hb hr hlk (Eq.symm (Eq.trans (if_neg c_12) (Eq.trans (if_pos c_27) (Eq.trans (if_pos c_82) (Eq.trans (if_neg c_96) (Eq.trans (if_pos c_103) (rfl))))))) dX1_wholeNear_135
    · refine lv_iload_n hx hb dX1_wholeNear_30 rfl (lv_at hl 4 rfl) ?_
      refine lv_iconst (v := 1) hx hb dX1_wholeNear_31 (by decide) ?_
      refine lv_isub hx hb dX1_wholeNear_32 ?_
      refine lv_i2l hx hb dX1_wholeNear_33 rfl ?_
      refine lv_iload_n hx hb dX1_wholeNear_34 rfl (lv_at hl 3 rfl) ?_
      refine lv_lshl hx hb dX1_wholeNear_35 rfl ?_
      refine tpl (fun x13 ex13 => ?_)
      refine lv_lstore (lv' := [(7, .long x13), (6, .int x2), (4, .long x1), (0, .long b), (2, .int n), (3, .int k)]) hx hb dX1_wholeNear_36 hl (by decide) rfl (fun ls hl => ?_)
      refine lv_lload_n hx hb dX1_wholeNear_38 rfl (lv_at hl 3 rfl) ?_
      refine lv_lload hx hb dX1_wholeNear_39 (lv_at hl 0 rfl) ?_
      refine W.lcmp hx hb dX1_wholeNear_41 ?_
      refine lv_if_gt (tgt := 49) hx hb dX1_wholeNear_42 (by decide) (fun c_42 => ?_) (fun c_42 => ?_)
      · have c_42 := (lg_cmp_gt _ _).mp c_42
        refine lv_lconst (v := 0) hx hb dX1_wholeNear_49 (by decide) ?_
        refine lv_iload_n hx hb dX1_wholeNear_50 rfl (lv_at hl 4 rfl) ?_
        refine lv_iload_n hx hb dX1_wholeNear_51 rfl (lv_at hl 5 rfl) ?_
        refine cl_Pl (c_X1_nextWhole l _ _ _) ⟨hx, hb, hml, hown, hts⟩ (va_cwS 3 hts gX1_wholeNear_X1_nextWhole rfl rfl rfl (by decide +kernel) ⟨Nat.le_of_ble_eq_true rfl, Nat.le_of_ble_eq_true rfl⟩) rfl hl.1 rfl (Nat.le_of_ble_eq_true rfl) (Nat.zero_le _) (Nat.zero_le _) dX1_wholeNear_52 ?_
        subst ex13 ex2 ex1
        exact rt_Pl hx hb hr hlk (Eq.symm (Eq.trans (if_neg c_12) (Eq.trans (if_neg c_27) (Eq.trans (if_pos c_42) (rfl))))) dX1_wholeNear_55
      · have c_42 := mt (lg_cmp_gt _ _).mpr c_42
        refine lv_lconst (v := 0) hx hb dX1_wholeNear_45 (by decide) ?_
        refine lv_goto (tgt := 55) hx hb dX1_wholeNear_46 (by decide) ?_
        subst ex13 ex2 ex1
        exact rt_Pl hx hb hr hlk (Eq.symm (Eq.trans (if_neg c_12) (Eq.trans (if_neg c_27) (Eq.trans (if_neg c_42) (rfl))))) dX1_wholeNear_55
  · have c_12 := (lg_cmp_eq _ _).mp c_12
    refine lv_lload_n hx hb dX1_wholeNear_15 rfl (lv_at hl 1 rfl) ?_
    subst ex1
    exact rt_Pl hx hb hr hlk (Eq.symm (Eq.trans (if_pos c_12) (rfl))) dX1_wholeNear_16

def f_X1_half (b : Int64) (n : Int32) (g : Int64) : Int64 := if b = g then (b) else (let x1 := 1 <<< (Int32.toInt64 n &&& 63); if b < (2 * x1) then (let x2 := b >>> (Int32.toInt64 1 &&& 63); if (b &&& 1) = 0 then (x2) else (x2 + (x2 &&& 1))) else (b - x1))
set_option maxHeartbeats 4000000 in
set_option maxRecDepth 100000 in
theorem c_X1_half (l : Launch) (b : Int64) (n : Int32) (g : Int64) : MetPl l yX1_half wsX1_half { frames := 0, cells := 0, slots := 0, locals := 0 } [.long b, .int n, .long g] (f_X1_half b n g) := by
  refine en_Pl (cc := cX1_half) (maxL := 9) (ret := (some .long)) (by decide) rfl (Nat.le_of_ble_eq_true rfl) ?_
  intro p e st m below meth c ls hx hb hr hml hts hown hlk hl
  have hown : st.vm.findClass RX1 = some m.cls := hown
  have hl : lv_has ls 9 [(0, .long b), (2, .int n), (3, .long g)] := hl
  have k34 := hts (.constantLong RX1 34 (2)) (by decide +kernel)
  refine lv_lload_n hx hb dX1_half_0 rfl (lv_at hl 0 rfl) ?_
  refine lv_lload_n hx hb dX1_half_1 rfl (lv_at hl 2 rfl) ?_
  refine W.lcmp hx hb dX1_half_2 ?_
  refine lv_if_ne (tgt := 8) hx hb dX1_half_3 (by decide) (fun c_3 => ?_) (fun c_3 => ?_)
  · have c_3 := mt (lg_cmp_eq _ _).mpr c_3
    refine lv_lconst (v := 1) hx hb dX1_half_8 (by decide) ?_
    refine lv_iload_n hx hb dX1_half_9 rfl (lv_at hl 1 rfl) ?_
    refine lv_lshl hx hb dX1_half_10 rfl ?_
    refine tpl (fun x1 ex1 => ?_)
    refine lv_lstore (lv' := [(5, .long x1), (0, .long b), (2, .int n), (3, .long g)]) hx hb dX1_half_11 hl (by decide) rfl (fun ls hl => ?_)
    refine lv_lload_n hx hb dX1_half_13 rfl (lv_at hl 1 rfl) ?_
    refine lv_ldc2 hx hb hown k34 dX1_half_14 ?_
    refine lv_lload hx hb dX1_half_17 (lv_at hl 0 rfl) ?_
    refine lv_lmul hx hb dX1_half_19 ?_
    refine W.lcmp hx hb dX1_half_20 ?_
    refine lv_if_lt (tgt := 29) hx hb dX1_half_21 (by decide) (fun c_21 => ?_) (fun c_21 => ?_)
    · have c_21 := (lg_cmp_lt _ _).mp c_21
      refine lv_lload_n hx hb dX1_half_29 rfl (lv_at hl 1 rfl) ?_
      refine lv_iconst (v := 1) hx hb dX1_half_30 (by decide) ?_
      refine lv_lshr hx hb dX1_half_31 rfl ?_
      refine tpl (fun x2 ex2 => ?_)
      refine lv_lstore (lv' := [(7, .long x2), (5, .long x1), (0, .long b), (2, .int n), (3, .long g)]) hx hb dX1_half_32 hl (by decide) rfl (fun ls hl => ?_)
      refine lv_lload_n hx hb dX1_half_34 rfl (lv_at hl 2 rfl) ?_
      refine lv_lconst (v := 1) hx hb dX1_half_35 (by decide) ?_
      refine lv_land hx hb dX1_half_36 ?_
      refine lv_lconst (v := 0) hx hb dX1_half_37 (by decide) ?_
      refine W.lcmp hx hb dX1_half_38 ?_
      refine lv_if_ne (tgt := 47) hx hb dX1_half_39 (by decide) (fun c_39 => ?_) (fun c_39 => ?_)
      · have c_39 := mt (lg_cmp_eq _ _).mpr c_39
        refine lv_lload hx hb dX1_half_47 (lv_at hl 0 rfl) ?_
        refine lv_lload hx hb dX1_half_49 (lv_at hl 0 rfl) ?_
        refine lv_lconst (v := 1) hx hb dX1_half_51 (by decide) ?_
        refine lv_land hx hb dX1_half_52 ?_
        refine lv_ladd hx hb dX1_half_53 ?_
        subst ex2 ex1
        exact rt_Pl hx hb hr hlk (Eq.symm (Eq.trans (if_neg c_3) (Eq.trans (if_pos c_21) (Eq.trans (if_neg c_39) (rfl))))) dX1_half_54
      · have c_39 := (lg_cmp_eq _ _).mp c_39
        refine lv_lload hx hb dX1_half_42 (lv_at hl 0 rfl) ?_
        refine lv_goto (tgt := 54) hx hb dX1_half_44 (by decide) ?_
        subst ex2 ex1
        exact rt_Pl hx hb hr hlk (Eq.symm (Eq.trans (if_neg c_3) (Eq.trans (if_pos c_21) (Eq.trans (if_pos c_39) (rfl))))) dX1_half_54
    · have c_21 := mt (lg_cmp_lt _ _).mpr c_21
      refine lv_lload_n hx hb dX1_half_24 rfl (lv_at hl 1 rfl) ?_
      refine lv_lload hx hb dX1_half_25 (lv_at hl 0 rfl) ?_
      refine lv_lsub hx hb dX1_half_27 ?_
      subst ex1
      exact rt_Pl hx hb hr hlk (Eq.symm (Eq.trans (if_neg c_3) (Eq.trans (if_neg c_21) (rfl)))) dX1_half_28
  · have c_3 := (lg_cmp_eq _ _).mp c_3
    refine lv_lload_n hx hb dX1_half_6 rfl (lv_at hl 0 rfl) ?_
    exact rt_Pl hx hb hr hlk (Eq.symm (Eq.trans (if_pos c_3) (rfl))) dX1_half_7

def f_X1_twice (b : Int64) (n : Int32) (g : Int64) : Int64 := if b = g then (b) else (let x1 := 1 <<< (Int32.toInt64 n &&& 63); if x1 ≤ b then (let x2 := b + x1; if x2 ≤ g then (x2) else (g)) else (b <<< (Int32.toInt64 1 &&& 63)))
set_option maxHeartbeats 4000000 in
set_option maxRecDepth 100000 in
theorem c_X1_twice (l : Launch) (b : Int64) (n : Int32) (g : Int64) : MetPl l yX1_twice wsX1_twice { frames := 0, cells := 0, slots := 0, locals := 0 } [.long b, .int n, .long g] (f_X1_twice b n g) := by
  refine en_Pl (cc := cX1_twice) (maxL := 9) (ret := (some .long)) (by decide) rfl (Nat.le_of_ble_eq_true rfl) ?_
  intro p e st m below meth c ls hx hb hr hml hts hown hlk hl
  have hown : st.vm.findClass RX1 = some m.cls := hown
  have hl : lv_has ls 9 [(0, .long b), (2, .int n), (3, .long g)] := hl
  refine lv_lload_n hx hb dX1_twice_0 rfl (lv_at hl 0 rfl) ?_
  refine lv_lload_n hx hb dX1_twice_1 rfl (lv_at hl 2 rfl) ?_
  refine W.lcmp hx hb dX1_twice_2 ?_
  refine lv_if_ne (tgt := 8) hx hb dX1_twice_3 (by decide) (fun c_3 => ?_) (fun c_3 => ?_)
  · have c_3 := mt (lg_cmp_eq _ _).mpr c_3
    refine lv_lconst (v := 1) hx hb dX1_twice_8 (by decide) ?_
    refine lv_iload_n hx hb dX1_twice_9 rfl (lv_at hl 1 rfl) ?_
    refine lv_lshl hx hb dX1_twice_10 rfl ?_
    refine tpl (fun x1 ex1 => ?_)
    refine lv_lstore (lv' := [(5, .long x1), (0, .long b), (2, .int n), (3, .long g)]) hx hb dX1_twice_11 hl (by decide) rfl (fun ls hl => ?_)
    refine lv_lload_n hx hb dX1_twice_13 rfl (lv_at hl 1 rfl) ?_
    refine lv_lload hx hb dX1_twice_14 (lv_at hl 0 rfl) ?_
    refine W.lcmp hx hb dX1_twice_16 ?_
    refine lv_if_ge (tgt := 24) hx hb dX1_twice_17 (by decide) (fun c_17 => ?_) (fun c_17 => ?_)
    · have c_17 := (lg_cmp_ge _ _).mp c_17
      refine lv_lload_n hx hb dX1_twice_24 rfl (lv_at hl 1 rfl) ?_
      refine lv_lload hx hb dX1_twice_25 (lv_at hl 0 rfl) ?_
      refine lv_ladd hx hb dX1_twice_27 ?_
      refine tpl (fun x2 ex2 => ?_)
      refine lv_lstore (lv' := [(7, .long x2), (5, .long x1), (0, .long b), (2, .int n), (3, .long g)]) hx hb dX1_twice_28 hl (by decide) rfl (fun ls hl => ?_)
      refine lv_lload hx hb dX1_twice_30 (lv_at hl 0 rfl) ?_
      refine lv_lload_n hx hb dX1_twice_32 rfl (lv_at hl 4 rfl) ?_
      refine W.lcmp hx hb dX1_twice_33 ?_
      refine lv_if_le (tgt := 41) hx hb dX1_twice_34 (by decide) (fun c_34 => ?_) (fun c_34 => ?_)
      · have c_34 := (lg_cmp_le _ _).mp c_34
        refine lv_lload hx hb dX1_twice_41 (lv_at hl 0 rfl) ?_
        subst ex2 ex1
        exact rt_Pl hx hb hr hlk (Eq.symm (Eq.trans (if_neg c_3) (Eq.trans (if_pos c_17) (Eq.trans (if_pos c_34) (rfl))))) dX1_twice_43
      · have c_34 := mt (lg_cmp_le _ _).mpr c_34
        refine lv_lload_n hx hb dX1_twice_37 rfl (lv_at hl 4 rfl) ?_
        refine lv_goto (tgt := 43) hx hb dX1_twice_38 (by decide) ?_
        subst ex2 ex1
        exact rt_Pl hx hb hr hlk (Eq.symm (Eq.trans (if_neg c_3) (Eq.trans (if_pos c_17) (Eq.trans (if_neg c_34) (rfl))))) dX1_twice_43
    · have c_17 := mt (lg_cmp_ge _ _).mpr c_17
      refine lv_lload_n hx hb dX1_twice_20 rfl (lv_at hl 1 rfl) ?_
      refine lv_iconst (v := 1) hx hb dX1_twice_21 (by decide) ?_
      refine lv_lshl hx hb dX1_twice_22 rfl ?_
      subst ex1
      exact rt_Pl hx hb hr hlk (Eq.symm (Eq.trans (if_neg c_3) (Eq.trans (if_neg c_17) (rfl)))) dX1_twice_23
  · have c_3 := (lg_cmp_eq _ _).mp c_3
    refine lv_lload_n hx hb dX1_twice_6 rfl (lv_at hl 0 rfl) ?_
    exact rt_Pl hx hb hr hlk (Eq.symm (Eq.trans (if_pos c_3) (rfl))) dX1_twice_7

def f_J6_compare_7cf53 (b : Int32) (g : Int32) : Int32 := if g ≤ b then (if b = g then (0) else (1)) else ((-1))
set_option maxHeartbeats 4000000 in
set_option maxRecDepth 100000 in
theorem c_J6_compare_7cf53 (l : Launch) (b : Int32) (g : Int32) : MetPi l yJ6_compare_7cf53 wsJ6_compare_7cf53 { frames := 0, cells := 0, slots := 0, locals := 0 } [.int b, .int g] (f_J6_compare_7cf53 b g) := by
  refine en_Pi (cc := cJ6_compare_7cf53) (maxL := 2) (ret := (some .int)) (by decide) rfl (Nat.le_of_ble_eq_true rfl) ?_
  intro p e st m below meth c ls hx hb hr hml hts hown hlk hl
  have hown : st.vm.findClass RJ6 = some m.cls := hown
  have hl : lv_has ls 2 [(0, .int b), (1, .int g)] := hl
  refine lv_iload_n hx hb dJ6_compare_7cf53_0 rfl (lv_at hl 0 rfl) ?_
  refine lv_iload_n hx hb dJ6_compare_7cf53_1 rfl (lv_at hl 1 rfl) ?_
  refine lv_icmp_ge (tgt := 9) hx hb dJ6_compare_7cf53_2 (by decide) (fun c_2 => ?_) (fun c_2 => ?_)
  · refine lv_iload_n hx hb dJ6_compare_7cf53_9 rfl (lv_at hl 0 rfl) ?_
    refine lv_iload_n hx hb dJ6_compare_7cf53_10 rfl (lv_at hl 1 rfl) ?_
    refine lv_icmp_ne (tgt := 18) hx hb dJ6_compare_7cf53_11 (by decide) (fun c_11 => ?_) (fun c_11 => ?_)
    · refine lv_iconst (v := 1) hx hb dJ6_compare_7cf53_18 (by decide) ?_
      exact rt_Pi hx hb hr hlk (Eq.symm (Eq.trans (if_pos c_2) (Eq.trans (if_neg c_11) (rfl)))) dJ6_compare_7cf53_19
    · refine lv_iconst (v := 0) hx hb dJ6_compare_7cf53_14 (by decide) ?_
      refine lv_goto (tgt := 19) hx hb dJ6_compare_7cf53_15 (by decide) ?_
      exact rt_Pi hx hb hr hlk (Eq.symm (Eq.trans (if_pos c_2) (Eq.trans (if_pos c_11) (rfl)))) dJ6_compare_7cf53_19
  · refine lv_iconst (v := (-1)) hx hb dJ6_compare_7cf53_5 (by decide) ?_
    refine lv_goto (tgt := 19) hx hb dJ6_compare_7cf53_6 (by decide) ?_
    exact rt_Pi hx hb hr hlk (Eq.symm (Eq.trans (if_neg c_2) (rfl))) dJ6_compare_7cf53_19

def f_J13_compare_74951 (b : Int64) (g : Int64) : Int32 := if g ≤ b then (if b = g then (0) else (1)) else ((-1))
set_option maxHeartbeats 4000000 in
set_option maxRecDepth 100000 in
theorem c_J13_compare_74951 (l : Launch) (b : Int64) (g : Int64) : MetPi l yJ13_compare_74951 wsJ13_compare_74951 { frames := 0, cells := 0, slots := 0, locals := 0 } [.long b, .long g] (f_J13_compare_74951 b g) := by
  refine en_Pi (cc := cJ13_compare_74951) (maxL := 4) (ret := (some .int)) (by decide) rfl (Nat.le_of_ble_eq_true rfl) ?_
  intro p e st m below meth c ls hx hb hr hml hts hown hlk hl
  have hown : st.vm.findClass RJ13 = some m.cls := hown
  have hl : lv_has ls 4 [(0, .long b), (2, .long g)] := hl
  refine lv_lload_n hx hb dJ13_compare_74951_0 rfl (lv_at hl 0 rfl) ?_
  refine lv_lload_n hx hb dJ13_compare_74951_1 rfl (lv_at hl 1 rfl) ?_
  refine W.lcmp hx hb dJ13_compare_74951_2 ?_
  refine lv_if_ge (tgt := 10) hx hb dJ13_compare_74951_3 (by decide) (fun c_3 => ?_) (fun c_3 => ?_)
  · have c_3 := (lg_cmp_ge _ _).mp c_3
    refine lv_lload_n hx hb dJ13_compare_74951_10 rfl (lv_at hl 0 rfl) ?_
    refine lv_lload_n hx hb dJ13_compare_74951_11 rfl (lv_at hl 1 rfl) ?_
    refine W.lcmp hx hb dJ13_compare_74951_12 ?_
    refine lv_if_ne (tgt := 20) hx hb dJ13_compare_74951_13 (by decide) (fun c_13 => ?_) (fun c_13 => ?_)
    · have c_13 := mt (lg_cmp_eq _ _).mpr c_13
      refine lv_iconst (v := 1) hx hb dJ13_compare_74951_20 (by decide) ?_
      exact rt_Pi hx hb hr hlk (Eq.symm (Eq.trans (if_pos c_3) (Eq.trans (if_neg c_13) (rfl)))) dJ13_compare_74951_21
    · have c_13 := (lg_cmp_eq _ _).mp c_13
      refine lv_iconst (v := 0) hx hb dJ13_compare_74951_16 (by decide) ?_
      refine lv_goto (tgt := 21) hx hb dJ13_compare_74951_17 (by decide) ?_
      exact rt_Pi hx hb hr hlk (Eq.symm (Eq.trans (if_pos c_3) (Eq.trans (if_pos c_13) (rfl)))) dJ13_compare_74951_21
  · have c_3 := mt (lg_cmp_ge _ _).mpr c_3
    refine lv_iconst (v := (-1)) hx hb dJ13_compare_74951_6 (by decide) ?_
    refine lv_goto (tgt := 21) hx hb dJ13_compare_74951_7 (by decide) ?_
    exact rt_Pi hx hb hr hlk (Eq.symm (Eq.trans (if_neg c_3) (rfl))) dJ13_compare_74951_21

def f_X2_isNumber (k : Int32) (b : Int64) : Int32 := if k = 0 then (if 9218868437227405312 < (f_X1_amount b) then (0) else (1)) else (if k = 1 then (if 2139095040 < (f_X1_shortAmount (Int64.toInt32 b)) then (0) else (1)) else (if k = 2 then (1) else (if k = 3 then (1) else (if k = 4 then (if 9218868437227405312 < (f_X1_amount b) then (0) else (1)) else (if k = 5 then (if 9218868437227405312 < (f_X1_amount b) then (0) else (1)) else (1))))))
set_option maxHeartbeats 4000000 in
set_option maxRecDepth 100000 in
theorem c_X2_isNumber (l : Launch) (k : Int32) (b : Int64) : MetPi l yX2_isNumber wsX2_isNumber { frames := 1, cells := 0, slots := 0, locals := 21 } [.int k, .long b] (f_X2_isNumber k b) := by
  refine en_Pi (cc := cX2_isNumber) (maxL := 3) (ret := (some .boolean)) (by decide) rfl (Nat.le_of_ble_eq_true rfl) ?_
  intro p e st m below meth c ls hx hb hr hml hts hown hlk hl
  have hown : st.vm.findClass RX2 = some m.cls := hown
  have hl : lv_has ls 3 [(0, .int k), (1, .long b)] := hl
  have k133 := hts (.constantLong RX2 133 (9218868437227405312)) (by decide +kernel)
  have k138 := hts (.constant RX2 138 (2139095040)) (by decide +kernel)
  refine lv_iload_n hx hb dX2_isNumber_0 rfl (lv_at hl 0 rfl) ?_
  by_cases c_1_0 : k = 0
  · refine lv_tableIn (tgt := 40) (off := 39) hx hb dX2_isNumber_1 (by rw [c_1_0]; decide) (by rw [c_1_0]; decide) (by rw [c_1_0]; rfl) (by decide) ?_
    refine lv_lload_n hx hb dX2_isNumber_40 rfl (lv_at hl 1 rfl) ?_
    refine cl_Pl (c_X1_amount l _) ⟨hx, hb, hml, hown, hts⟩ (va_cwS 1 hts gX2_isNumber_X1_amount rfl rfl rfl (by decide +kernel) ⟨Nat.le_of_ble_eq_true rfl, Nat.le_of_ble_eq_true rfl⟩) rfl hl.1 rfl (Nat.le_of_ble_eq_true rfl) (Nat.zero_le _) (Nat.zero_le _) dX2_isNumber_41 ?_
    refine lv_ldc2 hx hb hown k133 dX2_isNumber_44 ?_
    refine W.lcmp hx hb dX2_isNumber_47 ?_
    refine lv_if_gt (tgt := 55) hx hb dX2_isNumber_48 (by decide) (fun c_48 => ?_) (fun c_48 => ?_)
    · have c_48 := (lg_cmp_gt _ _).mp c_48
      refine lv_iconst (v := 0) hx hb dX2_isNumber_55 (by decide) ?_
      exact rt_Pz hx hb hr hlk rfl (Eq.symm (Eq.trans (if_pos c_1_0) (Eq.trans (if_pos c_48) (rfl)))) dX2_isNumber_56
    · have c_48 := mt (lg_cmp_gt _ _).mpr c_48
      refine lv_iconst (v := 1) hx hb dX2_isNumber_51 (by decide) ?_
      refine lv_goto (tgt := 56) hx hb dX2_isNumber_52 (by decide) ?_
      exact rt_Pz hx hb hr hlk rfl (Eq.symm (Eq.trans (if_pos c_1_0) (Eq.trans (if_neg c_48) (rfl)))) dX2_isNumber_56
  by_cases c_1_1 : k = 1
  · refine lv_tableIn (tgt := 57) (off := 56) hx hb dX2_isNumber_1 (by rw [c_1_1]; decide) (by rw [c_1_1]; decide) (by rw [c_1_1]; rfl) (by decide) ?_
    refine lv_lload_n hx hb dX2_isNumber_57 rfl (lv_at hl 1 rfl) ?_
    refine lv_l2i hx hb dX2_isNumber_58 rfl ?_
    refine cl_Pi (c_X1_shortAmount l _) ⟨hx, hb, hml, hown, hts⟩ (va_cwS 1 hts gX2_isNumber_X1_shortAmount rfl rfl rfl (by decide +kernel) ⟨Nat.le_of_ble_eq_true rfl, Nat.le_of_ble_eq_true rfl⟩) rfl hl.1 rfl (Nat.le_of_ble_eq_true rfl) (Nat.zero_le _) (Nat.zero_le _) dX2_isNumber_59 ?_
    refine lv_ldc hx hb hown k138 dX2_isNumber_62 ?_
    refine lv_icmp_gt (tgt := 71) hx hb dX2_isNumber_64 (by decide) (fun c_64 => ?_) (fun c_64 => ?_)
    · refine lv_iconst (v := 0) hx hb dX2_isNumber_71 (by decide) ?_
      exact rt_Pz hx hb hr hlk rfl (Eq.symm (Eq.trans (if_neg c_1_0) (Eq.trans (if_pos c_1_1) (Eq.trans (if_pos c_64) (rfl))))) dX2_isNumber_72
    · refine lv_iconst (v := 1) hx hb dX2_isNumber_67 (by decide) ?_
      refine lv_goto (tgt := 72) hx hb dX2_isNumber_68 (by decide) ?_
      exact rt_Pz hx hb hr hlk rfl (Eq.symm (Eq.trans (if_neg c_1_0) (Eq.trans (if_pos c_1_1) (Eq.trans (if_neg c_64) (rfl))))) dX2_isNumber_72
  by_cases c_1_2 : k = 2
  · refine lv_tableIn (tgt := 73) (off := 72) hx hb dX2_isNumber_1 (by rw [c_1_2]; decide) (by rw [c_1_2]; decide) (by rw [c_1_2]; rfl) (by decide) ?_
    refine lv_iconst (v := 1) hx hb dX2_isNumber_73 (by decide) ?_
    exact rt_Pz hx hb hr hlk rfl (Eq.symm (Eq.trans (if_neg c_1_0) (Eq.trans (if_neg c_1_1) (Eq.trans (if_pos c_1_2) (rfl))))) dX2_isNumber_74
  by_cases c_1_3 : k = 3
  · refine lv_tableIn (tgt := 73) (off := 72) hx hb dX2_isNumber_1 (by rw [c_1_3]; decide) (by rw [c_1_3]; decide) (by rw [c_1_3]; rfl) (by decide) ?_
    refine lv_iconst (v := 1) hx hb dX2_isNumber_73 (by decide) ?_
    exact rt_Pz hx hb hr hlk rfl (Eq.symm (Eq.trans (if_neg c_1_0) (Eq.trans (if_neg c_1_1) (Eq.trans (if_neg c_1_2) (Eq.trans (if_pos c_1_3) (rfl)))))) dX2_isNumber_74
  by_cases c_1_4 : k = 4
  · refine lv_tableIn (tgt := 40) (off := 39) hx hb dX2_isNumber_1 (by rw [c_1_4]; decide) (by rw [c_1_4]; decide) (by rw [c_1_4]; rfl) (by decide) ?_
    refine lv_lload_n hx hb dX2_isNumber_40 rfl (lv_at hl 1 rfl) ?_
    refine cl_Pl (c_X1_amount l _) ⟨hx, hb, hml, hown, hts⟩ (va_cwS 1 hts gX2_isNumber_X1_amount rfl rfl rfl (by decide +kernel) ⟨Nat.le_of_ble_eq_true rfl, Nat.le_of_ble_eq_true rfl⟩) rfl hl.1 rfl (Nat.le_of_ble_eq_true rfl) (Nat.zero_le _) (Nat.zero_le _) dX2_isNumber_41 ?_
    refine lv_ldc2 hx hb hown k133 dX2_isNumber_44 ?_
    refine W.lcmp hx hb dX2_isNumber_47 ?_
    refine lv_if_gt (tgt := 55) hx hb dX2_isNumber_48 (by decide) (fun c_48 => ?_) (fun c_48 => ?_)
    · have c_48 := (lg_cmp_gt _ _).mp c_48
      refine lv_iconst (v := 0) hx hb dX2_isNumber_55 (by decide) ?_
      exact rt_Pz hx hb hr hlk rfl (Eq.symm (Eq.trans (if_neg c_1_0) (Eq.trans (if_neg c_1_1) (Eq.trans (if_neg c_1_2) (Eq.trans (if_neg c_1_3) (Eq.trans (if_pos c_1_4) (Eq.trans (if_pos c_48) (rfl)))))))) dX2_isNumber_56
    · have c_48 := mt (lg_cmp_gt _ _).mpr c_48
      refine lv_iconst (v := 1) hx hb dX2_isNumber_51 (by decide) ?_
      refine lv_goto (tgt := 56) hx hb dX2_isNumber_52 (by decide) ?_
      exact rt_Pz hx hb hr hlk rfl (Eq.symm (Eq.trans (if_neg c_1_0) (Eq.trans (if_neg c_1_1) (Eq.trans (if_neg c_1_2) (Eq.trans (if_neg c_1_3) (Eq.trans (if_pos c_1_4) (Eq.trans (if_neg c_48) (rfl)))))))) dX2_isNumber_56
  by_cases c_1_5 : k = 5
  · refine lv_tableIn (tgt := 40) (off := 39) hx hb dX2_isNumber_1 (by rw [c_1_5]; decide) (by rw [c_1_5]; decide) (by rw [c_1_5]; rfl) (by decide) ?_
    refine lv_lload_n hx hb dX2_isNumber_40 rfl (lv_at hl 1 rfl) ?_
    refine cl_Pl (c_X1_amount l _) ⟨hx, hb, hml, hown, hts⟩ (va_cwS 1 hts gX2_isNumber_X1_amount rfl rfl rfl (by decide +kernel) ⟨Nat.le_of_ble_eq_true rfl, Nat.le_of_ble_eq_true rfl⟩) rfl hl.1 rfl (Nat.le_of_ble_eq_true rfl) (Nat.zero_le _) (Nat.zero_le _) dX2_isNumber_41 ?_
    refine lv_ldc2 hx hb hown k133 dX2_isNumber_44 ?_
    refine W.lcmp hx hb dX2_isNumber_47 ?_
    refine lv_if_gt (tgt := 55) hx hb dX2_isNumber_48 (by decide) (fun c_48 => ?_) (fun c_48 => ?_)
    · have c_48 := (lg_cmp_gt _ _).mp c_48
      refine lv_iconst (v := 0) hx hb dX2_isNumber_55 (by decide) ?_
      exact rt_Pz hx hb hr hlk rfl (Eq.symm (Eq.trans (if_neg c_1_0) (Eq.trans (if_neg c_1_1) (Eq.trans (if_neg c_1_2) (Eq.trans (if_neg c_1_3) (Eq.trans (if_neg c_1_4) (Eq.trans (if_pos c_1_5) (Eq.trans (if_pos c_48) (rfl))))))))) dX2_isNumber_56
    · have c_48 := mt (lg_cmp_gt _ _).mpr c_48
      refine lv_iconst (v := 1) hx hb dX2_isNumber_51 (by decide) ?_
      refine lv_goto (tgt := 56) hx hb dX2_isNumber_52 (by decide) ?_
      exact rt_Pz hx hb hr hlk rfl (Eq.symm (Eq.trans (if_neg c_1_0) (Eq.trans (if_neg c_1_1) (Eq.trans (if_neg c_1_2) (Eq.trans (if_neg c_1_3) (Eq.trans (if_neg c_1_4) (Eq.trans (if_pos c_1_5) (Eq.trans (if_neg c_48) (rfl))))))))) dX2_isNumber_56
  have n_1_0 := sw_i c_1_0 (k := 0) (by decide)
  have n_1_1 := sw_i c_1_1 (k := 1) (by decide)
  have n_1_2 := sw_i c_1_2 (k := 2) (by decide)
  have n_1_3 := sw_i c_1_3 (k := 3) (by decide)
  have n_1_4 := sw_i c_1_4 (k := 4) (by decide)
  have n_1_5 := sw_i c_1_5 (k := 5) (by decide)
  refine lv_tableOut (tgt := 73) hx hb dX2_isNumber_1 (by omega) (by decide) ?_
  refine lv_iconst (v := 1) hx hb dX2_isNumber_73 (by decide) ?_
  exact rt_Pz hx hb hr hlk rfl (Eq.symm (Eq.trans (if_neg c_1_0) (Eq.trans (if_neg c_1_1) (Eq.trans (if_neg c_1_2) (Eq.trans (if_neg c_1_3) (Eq.trans (if_neg c_1_4) (Eq.trans (if_neg c_1_5) (rfl)))))))) dX2_isNumber_74

def f_X2_wantsOther (n : Int32) : Int32 := if n = 1 then (1) else (if n = 2 then (1) else (if n = 7 then (1) else (if n = 9 then (1) else (if n = 11 then (1) else (0)))))
set_option maxHeartbeats 4000000 in
set_option maxRecDepth 100000 in
theorem c_X2_wantsOther (l : Launch) (n : Int32) : MetPi l yX2_wantsOther wsX2_wantsOther { frames := 0, cells := 0, slots := 0, locals := 0 } [.int n] (f_X2_wantsOther n) := by
  refine en_Pi (cc := cX2_wantsOther) (maxL := 1) (ret := (some .boolean)) (by decide) rfl (Nat.le_of_ble_eq_true rfl) ?_
  intro p e st m below meth c ls hx hb hr hml hts hown hlk hl
  have hown : st.vm.findClass RX2 = some m.cls := hown
  have hl : lv_has ls 1 [(0, .int n)] := hl
  refine lv_iload_n hx hb dX2_wantsOther_0 rfl (lv_at hl 0 rfl) ?_
  refine lv_iconst (v := 1) hx hb dX2_wantsOther_1 (by decide) ?_
  refine lv_icmp_eq (tgt := 28) hx hb dX2_wantsOther_2 (by decide) (fun c_2 => ?_) (fun c_2 => ?_)
  · refine lv_iconst (v := 1) hx hb dX2_wantsOther_28 (by decide) ?_
    refine lv_goto (tgt := 33) hx hb dX2_wantsOther_29 (by decide) ?_
    exact rt_Pz hx hb hr hlk rfl (Eq.symm (Eq.trans (if_pos c_2) (rfl))) dX2_wantsOther_33
  · refine lv_iload_n hx hb dX2_wantsOther_5 rfl (lv_at hl 0 rfl) ?_
    refine lv_iconst (v := 2) hx hb dX2_wantsOther_6 (by decide) ?_
    refine lv_icmp_eq (tgt := 28) hx hb dX2_wantsOther_7 (by decide) (fun c_7 => ?_) (fun c_7 => ?_)
    · refine lv_iconst (v := 1) hx hb dX2_wantsOther_28 (by decide) ?_
      refine lv_goto (tgt := 33) hx hb dX2_wantsOther_29 (by decide) ?_
      exact rt_Pz hx hb hr hlk rfl (Eq.symm (Eq.trans (if_neg c_2) (Eq.trans (if_pos c_7) (rfl)))) dX2_wantsOther_33
    · refine lv_iload_n hx hb dX2_wantsOther_10 rfl (lv_at hl 0 rfl) ?_
      refine lv_bipush (v := 7) hx hb dX2_wantsOther_11 (by decide) ?_
      refine lv_icmp_eq (tgt := 28) hx hb dX2_wantsOther_13 (by decide) (fun c_13 => ?_) (fun c_13 => ?_)
      · refine lv_iconst (v := 1) hx hb dX2_wantsOther_28 (by decide) ?_
        refine lv_goto (tgt := 33) hx hb dX2_wantsOther_29 (by decide) ?_
        exact rt_Pz hx hb hr hlk rfl (Eq.symm (Eq.trans (if_neg c_2) (Eq.trans (if_neg c_7) (Eq.trans (if_pos c_13) (rfl))))) dX2_wantsOther_33
      · refine lv_iload_n hx hb dX2_wantsOther_16 rfl (lv_at hl 0 rfl) ?_
        refine lv_bipush (v := 9) hx hb dX2_wantsOther_17 (by decide) ?_
        refine lv_icmp_eq (tgt := 28) hx hb dX2_wantsOther_19 (by decide) (fun c_19 => ?_) (fun c_19 => ?_)
        · refine lv_iconst (v := 1) hx hb dX2_wantsOther_28 (by decide) ?_
          refine lv_goto (tgt := 33) hx hb dX2_wantsOther_29 (by decide) ?_
          exact rt_Pz hx hb hr hlk rfl (Eq.symm (Eq.trans (if_neg c_2) (Eq.trans (if_neg c_7) (Eq.trans (if_neg c_13) (Eq.trans (if_pos c_19) (rfl)))))) dX2_wantsOther_33
        · refine lv_iload_n hx hb dX2_wantsOther_22 rfl (lv_at hl 0 rfl) ?_
          refine lv_bipush (v := 11) hx hb dX2_wantsOther_23 (by decide) ?_
          refine lv_icmp_ne (tgt := 32) hx hb dX2_wantsOther_25 (by decide) (fun c_25 => ?_) (fun c_25 => ?_)
          · refine lv_iconst (v := 0) hx hb dX2_wantsOther_32 (by decide) ?_
            exact rt_Pz hx hb hr hlk rfl (Eq.symm (Eq.trans (if_neg c_2) (Eq.trans (if_neg c_7) (Eq.trans (if_neg c_13) (Eq.trans (if_neg c_19) (Eq.trans (if_neg c_25) (rfl))))))) dX2_wantsOther_33
          · refine lv_iconst (v := 1) hx hb dX2_wantsOther_28 (by decide) ?_
            refine lv_goto (tgt := 33) hx hb dX2_wantsOther_29 (by decide) ?_
            exact rt_Pz hx hb hr hlk rfl (Eq.symm (Eq.trans (if_neg c_2) (Eq.trans (if_neg c_7) (Eq.trans (if_neg c_13) (Eq.trans (if_neg c_19) (Eq.trans (if_pos c_25) (rfl))))))) dX2_wantsOther_33
