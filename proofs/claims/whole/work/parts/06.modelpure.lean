def f_X3_sign (k : Int32) : Int64 := if k = 52 then ((-9223372036854775808)) else (2147483648)
set_option maxHeartbeats 4000000 in
set_option maxRecDepth 100000 in
theorem c_X3_sign (l : Launch) (k : Int32) : MetPl l yX3_sign wsX3_sign { frames := 0, cells := 0, slots := 0, locals := 0 } [.int k] (f_X3_sign k) := by
  refine en_Pl (cc := cX3_sign) (maxL := 1) (ret := (some .long)) (by decide) rfl (Nat.le_of_ble_eq_true rfl) ?_
  intro p e st m below meth c ls hx hb hr hml hts hown hlk hl
  have hown : st.vm.findClass RX3 = some m.cls := hown
  have hl : lv_has ls 1 [(0, .int k)] := hl
  have k67 := hts (.constantLong RX3 67 (2147483648)) (by decide +kernel)
  have k65 := hts (.constantLong RX3 65 (-9223372036854775808)) (by decide +kernel)
  refine lv_iload_n hx hb dX3_sign_0 rfl (lv_at hl 0 rfl) ?_
  refine lv_bipush (v := 52) hx hb dX3_sign_1 (by decide) ?_
  refine lv_icmp_ne (tgt := 12) hx hb dX3_sign_3 (by decide) (fun c_3 => ?_) (fun c_3 => ?_)
  · refine lv_ldc2 hx hb hown k67 dX3_sign_12 ?_
    exact rt_Pl hx hb hr hlk (Eq.symm (Eq.trans (if_neg c_3) (rfl))) dX3_sign_15
  · refine lv_ldc2 hx hb hown k65 dX3_sign_6 ?_
    refine lv_goto (tgt := 15) hx hb dX3_sign_9 (by decide) ?_
    exact rt_Pl hx hb hr hlk (Eq.symm (Eq.trans (if_pos c_3) (rfl))) dX3_sign_15

def f_X3_bias (k : Int32) : Int64 := if k = 52 then (1023) else (127)
set_option maxHeartbeats 4000000 in
set_option maxRecDepth 100000 in
theorem c_X3_bias (l : Launch) (k : Int32) : MetPl l yX3_bias wsX3_bias { frames := 0, cells := 0, slots := 0, locals := 0 } [.int k] (f_X3_bias k) := by
  refine en_Pl (cc := cX3_bias) (maxL := 1) (ret := (some .long)) (by decide) rfl (Nat.le_of_ble_eq_true rfl) ?_
  intro p e st m below meth c ls hx hb hr hml hts hown hlk hl
  have hown : st.vm.findClass RX3 = some m.cls := hown
  have hl : lv_has ls 1 [(0, .int k)] := hl
  have k71 := hts (.constantLong RX3 71 (127)) (by decide +kernel)
  have k69 := hts (.constantLong RX3 69 (1023)) (by decide +kernel)
  refine lv_iload_n hx hb dX3_bias_0 rfl (lv_at hl 0 rfl) ?_
  refine lv_bipush (v := 52) hx hb dX3_bias_1 (by decide) ?_
  refine lv_icmp_ne (tgt := 12) hx hb dX3_bias_3 (by decide) (fun c_3 => ?_) (fun c_3 => ?_)
  · refine lv_ldc2 hx hb hown k71 dX3_bias_12 ?_
    exact rt_Pl hx hb hr hlk (Eq.symm (Eq.trans (if_neg c_3) (rfl))) dX3_bias_15
  · refine lv_ldc2 hx hb hown k69 dX3_bias_6 ?_
    refine lv_goto (tgt := 15) hx hb dX3_bias_9 (by decide) ?_
    exact rt_Pl hx hb hr hlk (Eq.symm (Eq.trans (if_pos c_3) (rfl))) dX3_bias_15

def f_X3_one (k : Int32) : Int64 := (f_X3_bias k) <<< (Int32.toInt64 k &&& 63)
set_option maxHeartbeats 4000000 in
set_option maxRecDepth 100000 in
theorem c_X3_one (l : Launch) (k : Int32) : MetPl l yX3_one wsX3_one { frames := 1, cells := 0, slots := 0, locals := 20 } [.int k] (f_X3_one k) := by
  refine en_Pl (cc := cX3_one) (maxL := 1) (ret := (some .long)) (by decide) rfl (Nat.le_of_ble_eq_true rfl) ?_
  intro p e st m below meth c ls hx hb hr hml hts hown hlk hl
  have hown : st.vm.findClass RX3 = some m.cls := hown
  have hl : lv_has ls 1 [(0, .int k)] := hl
  refine lv_iload_n hx hb dX3_one_0 rfl (lv_at hl 0 rfl) ?_
  refine cl_Pl (c_X3_bias l _) ⟨hx, hb, hml, hown, hts⟩ (va_cwS 1 hts gX3_one_X3_bias rfl rfl rfl (by decide +kernel) ⟨Nat.le_of_ble_eq_true rfl, Nat.le_of_ble_eq_true rfl⟩) rfl hl.1 rfl (Nat.le_of_ble_eq_true rfl) (Nat.zero_le _) (Nat.zero_le _) dX3_one_1 ?_
  refine lv_iload_n hx hb dX3_one_4 rfl (lv_at hl 0 rfl) ?_
  refine lv_lshl hx hb dX3_one_5 rfl ?_
  exact rt_Pl hx hb hr hlk (Eq.symm (rfl)) dX3_one_6

def f_X3_endless (k : Int32) : Int64 := ((2 * (f_X3_bias k)) + 1) <<< (Int32.toInt64 k &&& 63)
set_option maxHeartbeats 4000000 in
set_option maxRecDepth 100000 in
theorem c_X3_endless (l : Launch) (k : Int32) : MetPl l yX3_endless wsX3_endless { frames := 1, cells := 0, slots := 0, locals := 20 } [.int k] (f_X3_endless k) := by
  refine en_Pl (cc := cX3_endless) (maxL := 1) (ret := (some .long)) (by decide) rfl (Nat.le_of_ble_eq_true rfl) ?_
  intro p e st m below meth c ls hx hb hr hml hts hown hlk hl
  have hown : st.vm.findClass RX3 = some m.cls := hown
  have hl : lv_has ls 1 [(0, .int k)] := hl
  have k76 := hts (.constantLong RX3 76 (2)) (by decide +kernel)
  refine lv_ldc2 hx hb hown k76 dX3_endless_0 ?_
  refine lv_iload_n hx hb dX3_endless_3 rfl (lv_at hl 0 rfl) ?_
  refine cl_Pl (c_X3_bias l _) ⟨hx, hb, hml, hown, hts⟩ (va_cwS 1 hts gX3_endless_X3_bias rfl rfl rfl (by decide +kernel) ⟨Nat.le_of_ble_eq_true rfl, Nat.le_of_ble_eq_true rfl⟩) rfl hl.1 rfl (Nat.le_of_ble_eq_true rfl) (Nat.zero_le _) (Nat.zero_le _) dX3_endless_4 ?_
  refine lv_lmul hx hb dX3_endless_7 ?_
  refine lv_lconst (v := 1) hx hb dX3_endless_8 (by decide) ?_
  refine lv_ladd hx hb dX3_endless_9 ?_
  refine lv_iload_n hx hb dX3_endless_10 rfl (lv_at hl 0 rfl) ?_
  refine lv_lshl hx hb dX3_endless_11 rfl ?_
  exact rt_Pl hx hb hr hlk (Eq.symm (rfl)) dX3_endless_12

def f_X3_amount (b : Int64) (k : Int32) : Int64 := b &&& ((f_X3_sign k) ^^^ (-1))
set_option maxHeartbeats 4000000 in
set_option maxRecDepth 100000 in
theorem c_X3_amount (l : Launch) (b : Int64) (k : Int32) : MetPl l yX3_amount wsX3_amount { frames := 1, cells := 0, slots := 0, locals := 20 } [.long b, .int k] (f_X3_amount b k) := by
  refine en_Pl (cc := cX3_amount) (maxL := 3) (ret := (some .long)) (by decide) rfl (Nat.le_of_ble_eq_true rfl) ?_
  intro p e st m below meth c ls hx hb hr hml hts hown hlk hl
  have hown : st.vm.findClass RX3 = some m.cls := hown
  have hl : lv_has ls 3 [(0, .long b), (2, .int k)] := hl
  have k78 := hts (.constantLong RX3 78 (-1)) (by decide +kernel)
  refine lv_lload_n hx hb dX3_amount_0 rfl (lv_at hl 0 rfl) ?_
  refine lv_iload_n hx hb dX3_amount_1 rfl (lv_at hl 1 rfl) ?_
  refine cl_Pl (c_X3_sign l _) ⟨hx, hb, hml, hown, hts⟩ (va_cwS 1 hts gX3_amount_X3_sign rfl rfl rfl (by decide +kernel) ⟨Nat.le_of_ble_eq_true rfl, Nat.le_of_ble_eq_true rfl⟩) rfl hl.1 rfl (Nat.le_of_ble_eq_true rfl) (Nat.zero_le _) (Nat.zero_le _) dX3_amount_2 ?_
  refine lv_ldc2 hx hb hown k78 dX3_amount_5 ?_
  refine lv_lxor hx hb dX3_amount_8 ?_
  refine lv_land hx hb dX3_amount_9 ?_
  exact rt_Pl hx hb hr hlk (Eq.symm (rfl)) dX3_amount_10

def f_X3_isBelow (b : Int64) (k : Int32) : Int32 := if (b &&& (f_X3_sign k)) = 0 then (0) else (1)
set_option maxHeartbeats 4000000 in
set_option maxRecDepth 100000 in
theorem c_X3_isBelow (l : Launch) (b : Int64) (k : Int32) : MetPi l yX3_isBelow wsX3_isBelow { frames := 1, cells := 0, slots := 0, locals := 20 } [.long b, .int k] (f_X3_isBelow b k) := by
  refine en_Pi (cc := cX3_isBelow) (maxL := 3) (ret := (some .boolean)) (by decide) rfl (Nat.le_of_ble_eq_true rfl) ?_
  intro p e st m below meth c ls hx hb hr hml hts hown hlk hl
  have hown : st.vm.findClass RX3 = some m.cls := hown
  have hl : lv_has ls 3 [(0, .long b), (2, .int k)] := hl
  refine lv_lload_n hx hb dX3_isBelow_0 rfl (lv_at hl 0 rfl) ?_
  refine lv_iload_n hx hb dX3_isBelow_1 rfl (lv_at hl 1 rfl) ?_
  refine cl_Pl (c_X3_sign l _) ⟨hx, hb, hml, hown, hts⟩ (va_cwS 1 hts gX3_isBelow_X3_sign rfl rfl rfl (by decide +kernel) ⟨Nat.le_of_ble_eq_true rfl, Nat.le_of_ble_eq_true rfl⟩) rfl hl.1 rfl (Nat.le_of_ble_eq_true rfl) (Nat.zero_le _) (Nat.zero_le _) dX3_isBelow_2 ?_
  refine lv_land hx hb dX3_isBelow_5 ?_
  refine lv_lconst (v := 0) hx hb dX3_isBelow_6 (by decide) ?_
  refine W.lcmp hx hb dX3_isBelow_7 ?_
  refine lv_if_eq (tgt := 15) hx hb dX3_isBelow_8 (by decide) (fun c_8 => ?_) (fun c_8 => ?_)
  · have c_8 := (lg_cmp_eq _ _).mp c_8
    refine lv_iconst (v := 0) hx hb dX3_isBelow_15 (by decide) ?_
    exact rt_Pz hx hb hr hlk rfl (Eq.symm (Eq.trans (if_pos c_8) (rfl))) dX3_isBelow_16
  · have c_8 := mt (lg_cmp_eq _ _).mpr c_8
    refine lv_iconst (v := 1) hx hb dX3_isBelow_11 (by decide) ?_
    refine lv_goto (tgt := 16) hx hb dX3_isBelow_12 (by decide) ?_
    exact rt_Pz hx hb hr hlk rfl (Eq.symm (Eq.trans (if_neg c_8) (rfl))) dX3_isBelow_16

def f_X3_isNumber (b : Int64) (k : Int32) : Int32 := if (f_X3_endless k) < (f_X3_amount b k) then (0) else (1)
set_option maxHeartbeats 4000000 in
set_option maxRecDepth 100000 in
theorem c_X3_isNumber (l : Launch) (b : Int64) (k : Int32) : MetPi l yX3_isNumber wsX3_isNumber { frames := 2, cells := 0, slots := 0, locals := 42 } [.long b, .int k] (f_X3_isNumber b k) := by
  refine en_Pi (cc := cX3_isNumber) (maxL := 3) (ret := (some .boolean)) (by decide) rfl (Nat.le_of_ble_eq_true rfl) ?_
  intro p e st m below meth c ls hx hb hr hml hts hown hlk hl
  have hown : st.vm.findClass RX3 = some m.cls := hown
  have hl : lv_has ls 3 [(0, .long b), (2, .int k)] := hl
  refine lv_lload_n hx hb dX3_isNumber_0 rfl (lv_at hl 0 rfl) ?_
  refine lv_iload_n hx hb dX3_isNumber_1 rfl (lv_at hl 1 rfl) ?_
  refine cl_Pl (c_X3_amount l _ _) ⟨hx, hb, hml, hown, hts⟩ (va_cwS 2 hts gX3_isNumber_X3_amount rfl rfl rfl (by decide +kernel) ⟨Nat.le_of_ble_eq_true rfl, Nat.le_of_ble_eq_true rfl⟩) rfl hl.1 rfl (Nat.le_of_ble_eq_true rfl) (Nat.zero_le _) (Nat.zero_le _) dX3_isNumber_2 ?_
  refine lv_iload_n hx hb dX3_isNumber_5 rfl (lv_at hl 1 rfl) ?_
  refine cl_Pl (c_X3_endless l _) ⟨hx, hb, hml, hown, hts⟩ (va_cwS 1 hts gX3_isNumber_X3_endless rfl rfl rfl (by decide +kernel) ⟨Nat.le_of_ble_eq_true rfl, Nat.le_of_ble_eq_true rfl⟩) rfl hl.1 rfl (Nat.le_of_ble_eq_true rfl) (Nat.zero_le _) (Nat.zero_le _) dX3_isNumber_6 ?_
  refine W.lcmp hx hb dX3_isNumber_9 ?_
  refine lv_if_gt (tgt := 17) hx hb dX3_isNumber_10 (by decide) (fun c_10 => ?_) (fun c_10 => ?_)
  · have c_10 := (lg_cmp_gt _ _).mp c_10
    refine lv_iconst (v := 0) hx hb dX3_isNumber_17 (by decide) ?_
    exact rt_Pz hx hb hr hlk rfl (Eq.symm (Eq.trans (if_pos c_10) (rfl))) dX3_isNumber_18
  · have c_10 := mt (lg_cmp_gt _ _).mpr c_10
    refine lv_iconst (v := 1) hx hb dX3_isNumber_13 (by decide) ?_
    refine lv_goto (tgt := 18) hx hb dX3_isNumber_14 (by decide) ?_
    exact rt_Pz hx hb hr hlk rfl (Eq.symm (Eq.trans (if_neg c_10) (rfl))) dX3_isNumber_18

def f_X3_down (b : Int64) (k : Int32) : Int64 := let x1 := f_X3_amount b k; if x1 = 0 then (b) else (if x1 < (((f_X3_bias k) + (Int32.toInt64 k)) <<< (Int32.toInt64 k &&& 63)) then (if (f_X3_one k) ≤ x1 then (let x2 := (1 <<< (Int32.toInt64 (k - (Int64.toInt32 ((x1 >>> (Int32.toInt64 k &&& 63)) - (f_X3_bias k)))) &&& 63)) - 1; if (f_X3_isBelow b k) = 0 then (x1 &&& (x2 ^^^ (-1))) else ((f_X3_sign k) ||| ((x1 + x2) &&& (x2 ^^^ (-1))))) else (if (f_X3_isBelow b k) = 0 then (0) else ((f_X3_sign k) ||| (f_X3_one k)))) else (b))
set_option maxHeartbeats 4000000 in
set_option maxRecDepth 100000 in
theorem c_X3_down (l : Launch) (b : Int64) (k : Int32) : MetPl l yX3_down wsX3_down { frames := 2, cells := 0, slots := 0, locals := 42 } [.long b, .int k] (f_X3_down b k) := by
  refine en_Pl (cc := cX3_down) (maxL := 7) (ret := (some .long)) (by decide) rfl (Nat.le_of_ble_eq_true rfl) ?_
  intro p e st m below meth c ls hx hb hr hml hts hown hlk hl
  have hown : st.vm.findClass RX3 = some m.cls := hown
  have hl : lv_has ls 7 [(0, .long b), (2, .int k)] := hl
  have k78 := hts (.constantLong RX3 78 (-1)) (by decide +kernel)
  refine lv_lload_n hx hb dX3_down_0 rfl (lv_at hl 0 rfl) ?_
  refine lv_iload_n hx hb dX3_down_1 rfl (lv_at hl 1 rfl) ?_
  refine cl_Pl (c_X3_amount l _ _) ⟨hx, hb, hml, hown, hts⟩ (va_cwS 2 hts gX3_down_X3_amount rfl rfl rfl (by decide +kernel) ⟨Nat.le_of_ble_eq_true rfl, Nat.le_of_ble_eq_true rfl⟩) rfl hl.1 rfl (Nat.le_of_ble_eq_true rfl) (Nat.zero_le _) (Nat.zero_le _) dX3_down_2 ?_
  refine tpl (fun x1 ex1 => ?_)
  refine lv_lstore_n (lv' := [(3, .long x1), (0, .long b), (2, .int k)]) hx hb dX3_down_5 rfl hl (by decide) rfl (fun ls hl => ?_)
  refine lv_lload_n hx hb dX3_down_6 rfl (lv_at hl 0 rfl) ?_
  refine lv_lconst (v := 0) hx hb dX3_down_7 (by decide) ?_
  refine W.lcmp hx hb dX3_down_8 ?_
  refine lv_if_eq (tgt := 26) hx hb dX3_down_9 (by decide) (fun c_9 => ?_) (fun c_9 => ?_)
  · have c_9 := (lg_cmp_eq _ _).mp c_9
    refine lv_lload_n hx hb dX3_down_26 rfl (lv_at hl 1 rfl) ?_
    subst ex1
    exact rt_Pl hx hb hr hlk (Eq.symm (Eq.trans (if_pos c_9) (rfl))) dX3_down_27
  · have c_9 := mt (lg_cmp_eq _ _).mpr c_9
    refine lv_lload_n hx hb dX3_down_12 rfl (lv_at hl 0 rfl) ?_
    refine lv_iload_n hx hb dX3_down_13 rfl (lv_at hl 2 rfl) ?_
    refine cl_Pl (c_X3_bias l _) ⟨hx, hb, hml, hown, hts⟩ (va_cwS 1 hts gX3_down_X3_bias rfl rfl rfl (by decide +kernel) ⟨Nat.le_of_ble_eq_true rfl, Nat.le_of_ble_eq_true rfl⟩) rfl hl.1 rfl (Nat.le_of_ble_eq_true rfl) (Nat.zero_le _) (Nat.zero_le _) dX3_down_14 ?_
    refine lv_iload_n hx hb dX3_down_17 rfl (lv_at hl 2 rfl) ?_
    refine lv_i2l hx hb dX3_down_18 rfl ?_
    refine lv_ladd hx hb dX3_down_19 ?_
    refine lv_iload_n hx hb dX3_down_20 rfl (lv_at hl 2 rfl) ?_
    refine lv_lshl hx hb dX3_down_21 rfl ?_
    refine W.lcmp hx hb dX3_down_22 ?_
    refine lv_if_lt (tgt := 28) hx hb dX3_down_23 (by decide) (fun c_23 => ?_) (fun c_23 => ?_)
    · have c_23 := (lg_cmp_lt _ _).mp c_23
      refine lv_lload_n hx hb dX3_down_28 rfl (lv_at hl 0 rfl) ?_
      refine lv_iload_n hx hb dX3_down_29 rfl (lv_at hl 2 rfl) ?_
      refine cl_Pl (c_X3_one l _) ⟨hx, hb, hml, hown, hts⟩ (va_cwS 1 hts gX3_down_X3_one rfl rfl rfl (by decide +kernel) ⟨Nat.le_of_ble_eq_true rfl, Nat.le_of_ble_eq_true rfl⟩) rfl hl.1 rfl (Nat.le_of_ble_eq_true rfl) (Nat.zero_le _) (Nat.zero_le _) dX3_down_30 ?_
      refine W.lcmp hx hb dX3_down_33 ?_
      refine lv_if_ge (tgt := 59) hx hb dX3_down_34 (by decide) (fun c_34 => ?_) (fun c_34 => ?_)
      · have c_34 := (lg_cmp_ge _ _).mp c_34
        refine lv_lconst (v := 1) hx hb dX3_down_59 (by decide) ?_
        refine lv_iload_n hx hb dX3_down_60 rfl (lv_at hl 2 rfl) ?_
        refine lv_lload_n hx hb dX3_down_61 rfl (lv_at hl 0 rfl) ?_
        refine lv_iload_n hx hb dX3_down_62 rfl (lv_at hl 2 rfl) ?_
        refine lv_lshr hx hb dX3_down_63 rfl ?_
        refine lv_iload_n hx hb dX3_down_64 rfl (lv_at hl 2 rfl) ?_
        refine cl_Pl (c_X3_bias l _) ⟨hx, hb, hml, hown, hts⟩ (va_cwS 1 hts gX3_down_X3_bias rfl rfl rfl (by decide +kernel) ⟨Nat.le_of_ble_eq_true rfl, Nat.le_of_ble_eq_true rfl⟩) rfl hl.1 rfl (Nat.le_of_ble_eq_true rfl) (Nat.zero_le _) (Nat.zero_le _) dX3_down_65 ?_
        refine lv_lsub hx hb dX3_down_68 ?_
        refine lv_l2i hx hb dX3_down_69 rfl ?_
        refine lv_isub hx hb dX3_down_70 ?_
        refine lv_lshl hx hb dX3_down_71 rfl ?_
        refine lv_lconst (v := 1) hx hb dX3_down_72 (by decide) ?_
        refine lv_lsub hx hb dX3_down_73 ?_
        refine tpl (fun x2 ex2 => ?_)
        refine lv_lstore (lv' := [(5, .long x2), (3, .long x1), (0, .long b), (2, .int k)]) hx hb dX3_down_74 hl (by decide) rfl (fun ls hl => ?_)
        refine lv_lload_n hx hb dX3_down_76 rfl (lv_at hl 2 rfl) ?_
        refine lv_iload_n hx hb dX3_down_77 rfl (lv_at hl 3 rfl) ?_
        refine cl_Pi (c_X3_isBelow l _ _) ⟨hx, hb, hml, hown, hts⟩ (va_cwS 2 hts gX3_down_X3_isBelow rfl rfl rfl (by decide +kernel) ⟨Nat.le_of_ble_eq_true rfl, Nat.le_of_ble_eq_true rfl⟩) rfl hl.1 rfl (Nat.le_of_ble_eq_true rfl) (Nat.zero_le _) (Nat.zero_le _) dX3_down_78 ?_
        refine lv_if_eq (tgt := 103) hx hb dX3_down_81 (by decide) (fun c_81 => ?_) (fun c_81 => ?_)
        · refine lv_lload_n hx hb dX3_down_103 rfl (lv_at hl 1 rfl) ?_
          refine lv_lload hx hb dX3_down_104 (lv_at hl 0 rfl) ?_
          refine lv_ldc2 hx hb hown k78 dX3_down_106 ?_
          refine lv_lxor hx hb dX3_down_109 ?_
          refine lv_land hx hb dX3_down_110 ?_
          subst ex2 ex1
          exact rt_Pl hx hb hr hlk (Eq.symm (Eq.trans (if_neg c_9) (Eq.trans (if_pos c_23) (Eq.trans (if_pos c_34) (Eq.trans (if_pos c_81) (rfl)))))) dX3_down_111
        · refine lv_iload_n hx hb dX3_down_84 rfl (lv_at hl 3 rfl) ?_
          refine cl_Pl (c_X3_sign l _) ⟨hx, hb, hml, hown, hts⟩ (va_cwS 1 hts gX3_down_X3_sign rfl rfl rfl (by decide +kernel) ⟨Nat.le_of_ble_eq_true rfl, Nat.le_of_ble_eq_true rfl⟩) rfl hl.1 rfl (Nat.le_of_ble_eq_true rfl) (Nat.zero_le _) (Nat.zero_le _) dX3_down_85 ?_
          refine lv_lload_n hx hb dX3_down_88 rfl (lv_at hl 1 rfl) ?_
          refine lv_lload hx hb dX3_down_89 (lv_at hl 0 rfl) ?_
          refine lv_ladd hx hb dX3_down_91 ?_
          refine lv_lload hx hb dX3_down_92 (lv_at hl 0 rfl) ?_
          refine lv_ldc2 hx hb hown k78 dX3_down_94 ?_
          refine lv_lxor hx hb dX3_down_97 ?_
          refine lv_land hx hb dX3_down_98 ?_
          refine lv_lor hx hb dX3_down_99 ?_
          refine lv_goto (tgt := 111) hx hb dX3_down_100 (by decide) ?_
          subst ex2 ex1
          exact rt_Pl hx hb hr hlk (Eq.symm (Eq.trans (if_neg c_9) (Eq.trans (if_pos c_23) (Eq.trans (if_pos c_34) (Eq.trans (if_neg c_81) (rfl)))))) dX3_down_111
      · have c_34 := mt (lg_cmp_ge _ _).mpr c_34
        refine lv_lload_n hx hb dX3_down_37 rfl (lv_at hl 1 rfl) ?_
        refine lv_iload_n hx hb dX3_down_38 rfl (lv_at hl 2 rfl) ?_
        refine cl_Pi (c_X3_isBelow l _ _) ⟨hx, hb, hml, hown, hts⟩ (va_cwS 2 hts gX3_down_X3_isBelow rfl rfl rfl (by decide +kernel) ⟨Nat.le_of_ble_eq_true rfl, Nat.le_of_ble_eq_true rfl⟩) rfl hl.1 rfl (Nat.le_of_ble_eq_true rfl) (Nat.zero_le _) (Nat.zero_le _) dX3_down_39 ?_
        refine lv_if_eq (tgt := 57) hx hb dX3_down_42 (by decide) (fun c_42 => ?_) (fun c_42 => ?_)
        · refine lv_lconst (v := 0) hx hb dX3_down_57 (by decide) ?_
          subst ex1
          exact rt_Pl hx hb hr hlk (Eq.symm (Eq.trans (if_neg c_9) (Eq.trans (if_pos c_23) (Eq.trans (if_neg c_34) (Eq.trans (if_pos c_42) (rfl)))))) dX3_down_58
        · refine lv_iload_n hx hb dX3_down_45 rfl (lv_at hl 2 rfl) ?_
          refine cl_Pl (c_X3_sign l _) ⟨hx, hb, hml, hown, hts⟩ (va_cwS 1 hts gX3_down_X3_sign rfl rfl rfl (by decide +kernel) ⟨Nat.le_of_ble_eq_true rfl, Nat.le_of_ble_eq_true rfl⟩) rfl hl.1 rfl (Nat.le_of_ble_eq_true rfl) (Nat.zero_le _) (Nat.zero_le _) dX3_down_46 ?_
          refine lv_iload_n hx hb dX3_down_49 rfl (lv_at hl 2 rfl) ?_
          refine cl_Pl (c_X3_one l _) ⟨hx, hb, hml, hown, hts⟩ (va_cwS 1 hts gX3_down_X3_one rfl rfl rfl (by decide +kernel) ⟨Nat.le_of_ble_eq_true rfl, Nat.le_of_ble_eq_true rfl⟩) rfl hl.1 rfl (Nat.le_of_ble_eq_true rfl) (Nat.zero_le _) (Nat.zero_le _) dX3_down_50 ?_
          refine lv_lor hx hb dX3_down_53 ?_
          refine lv_goto (tgt := 58) hx hb dX3_down_54 (by decide) ?_
          subst ex1
          exact rt_Pl hx hb hr hlk (Eq.symm (Eq.trans (if_neg c_9) (Eq.trans (if_pos c_23) (Eq.trans (if_neg c_34) (Eq.trans (if_neg c_42) (rfl)))))) dX3_down_58
    · have c_23 := mt (lg_cmp_lt _ _).mpr c_23
      refine lv_lload_n hx hb dX3_down_26 rfl (lv_at hl 1 rfl) ?_
      subst ex1
      exact rt_Pl hx hb hr hlk (Eq.symm (Eq.trans (if_neg c_9) (Eq.trans (if_neg c_23) (rfl)))) dX3_down_27

def f_X3_up (b : Int64) (k : Int32) : Int64 := (f_X3_down (b ^^^ (f_X3_sign k)) k) ^^^ (f_X3_sign k)
set_option maxHeartbeats 4000000 in
set_option maxRecDepth 100000 in
theorem c_X3_up (l : Launch) (b : Int64) (k : Int32) : MetPl l yX3_up wsX3_up { frames := 3, cells := 0, slots := 0, locals := 68 } [.long b, .int k] (f_X3_up b k) := by
  refine en_Pl (cc := cX3_up) (maxL := 3) (ret := (some .long)) (by decide) rfl (Nat.le_of_ble_eq_true rfl) ?_
  intro p e st m below meth c ls hx hb hr hml hts hown hlk hl
  have hown : st.vm.findClass RX3 = some m.cls := hown
  have hl : lv_has ls 3 [(0, .long b), (2, .int k)] := hl
  refine lv_lload_n hx hb dX3_up_0 rfl (lv_at hl 0 rfl) ?_
  refine lv_iload_n hx hb dX3_up_1 rfl (lv_at hl 1 rfl) ?_
  refine cl_Pl (c_X3_sign l _) ⟨hx, hb, hml, hown, hts⟩ (va_cwS 1 hts gX3_up_X3_sign rfl rfl rfl (by decide +kernel) ⟨Nat.le_of_ble_eq_true rfl, Nat.le_of_ble_eq_true rfl⟩) rfl hl.1 rfl (Nat.le_of_ble_eq_true rfl) (Nat.zero_le _) (Nat.zero_le _) dX3_up_2 ?_
  refine lv_lxor hx hb dX3_up_5 ?_
  refine lv_iload_n hx hb dX3_up_6 rfl (lv_at hl 1 rfl) ?_
  refine cl_Pl (c_X3_down l _ _) ⟨hx, hb, hml, hown, hts⟩ (va_cwS 2 hts gX3_up_X3_down rfl rfl rfl (by decide +kernel) ⟨Nat.le_of_ble_eq_true rfl, Nat.le_of_ble_eq_true rfl⟩) rfl hl.1 rfl (Nat.le_of_ble_eq_true rfl) (Nat.zero_le _) (Nat.zero_le _) dX3_up_7 ?_
  refine lv_iload_n hx hb dX3_up_10 rfl (lv_at hl 1 rfl) ?_
  refine cl_Pl (c_X3_sign l _) ⟨hx, hb, hml, hown, hts⟩ (va_cwS 1 hts gX3_up_X3_sign rfl rfl rfl (by decide +kernel) ⟨Nat.le_of_ble_eq_true rfl, Nat.le_of_ble_eq_true rfl⟩) rfl hl.1 rfl (Nat.le_of_ble_eq_true rfl) (Nat.zero_le _) (Nat.zero_le _) dX3_up_11 ?_
  refine lv_lxor hx hb dX3_up_14 ?_
  exact rt_Pl hx hb hr hlk (Eq.symm (rfl)) dX3_up_15

def f_X3_near (b : Int64) (k : Int32) : Int64 := let x1 := f_X3_amount b k; let x2 := b &&& (f_X3_sign k); if x1 < (((f_X3_bias k) + (Int32.toInt64 k)) <<< (Int32.toInt64 k &&& 63)) then (if (f_X3_one k) ≤ x1 then (let x3 := (1 <<< (Int32.toInt64 (k - (Int64.toInt32 ((x1 >>> (Int32.toInt64 k &&& 63)) - (f_X3_bias k)))) &&& 63)) - 1; let x4 := x1 &&& (x3 ^^^ (-1)); let x5 := 2 * (x1 &&& x3); if (x4 &&& (x3 + 1)) = 0 then (if (x3 + 1) < x5 then (x2 ||| ((x4 + x3) + 1)) else (if x5 = (x3 + 1) then (x2 ||| x4) else (x2 ||| x4))) else (if (x3 + 1) < x5 then (x2 ||| ((x4 + x3) + 1)) else (if x5 = (x3 + 1) then (x2 ||| ((x4 + x3) + 1)) else (x2 ||| x4)))) else (if x1 ≤ ((f_X3_one k) - (1 <<< (Int32.toInt64 k &&& 63))) then (x2) else (x2 ||| (f_X3_one k)))) else (b)
set_option maxHeartbeats 4000000 in
set_option maxRecDepth 100000 in
theorem c_X3_near (l : Launch) (b : Int64) (k : Int32) : MetPl l yX3_near wsX3_near { frames := 2, cells := 0, slots := 0, locals := 42 } [.long b, .int k] (f_X3_near b k) := by
  refine en_Pl (cc := cX3_near) (maxL := 15) (ret := (some .long)) (by decide) rfl (Nat.le_of_ble_eq_true rfl) ?_
  intro p e st m below meth c ls hx hb hr hml hts hown hlk hl
  have hown : st.vm.findClass RX3 = some m.cls := hown
  have hl : lv_has ls 15 [(0, .long b), (2, .int k)] := hl
  have k78 := hts (.constantLong RX3 78 (-1)) (by decide +kernel)
  have k76 := hts (.constantLong RX3 76 (2)) (by decide +kernel)
  refine lv_lload_n hx hb dX3_near_0 rfl (lv_at hl 0 rfl) ?_
  refine lv_iload_n hx hb dX3_near_1 rfl (lv_at hl 1 rfl) ?_
  refine cl_Pl (c_X3_amount l _ _) ⟨hx, hb, hml, hown, hts⟩ (va_cwS 2 hts gX3_near_X3_amount rfl rfl rfl (by decide +kernel) ⟨Nat.le_of_ble_eq_true rfl, Nat.le_of_ble_eq_true rfl⟩) rfl hl.1 rfl (Nat.le_of_ble_eq_true rfl) (Nat.zero_le _) (Nat.zero_le _) dX3_near_2 ?_
  refine tpl (fun x1 ex1 => ?_)
  refine lv_lstore_n (lv' := [(3, .long x1), (0, .long b), (2, .int k)]) hx hb dX3_near_5 rfl hl (by decide) rfl (fun ls hl => ?_)
  refine lv_lload_n hx hb dX3_near_6 rfl (lv_at hl 1 rfl) ?_
  refine lv_iload_n hx hb dX3_near_7 rfl (lv_at hl 2 rfl) ?_
  refine cl_Pl (c_X3_sign l _) ⟨hx, hb, hml, hown, hts⟩ (va_cwS 1 hts gX3_near_X3_sign rfl rfl rfl (by decide +kernel) ⟨Nat.le_of_ble_eq_true rfl, Nat.le_of_ble_eq_true rfl⟩) rfl hl.1 rfl (Nat.le_of_ble_eq_true rfl) (Nat.zero_le _) (Nat.zero_le _) dX3_near_8 ?_
  refine lv_land hx hb dX3_near_11 ?_
  refine tpl (fun x2 ex2 => ?_)
  refine lv_lstore (lv' := [(5, .long x2), (3, .long x1), (0, .long b), (2, .int k)]) hx hb dX3_near_12 hl (by decide) rfl (fun ls hl => ?_)
  refine lv_lload_n hx hb dX3_near_14 rfl (lv_at hl 1 rfl) ?_
  refine lv_iload_n hx hb dX3_near_15 rfl (lv_at hl 3 rfl) ?_
  refine cl_Pl (c_X3_bias l _) ⟨hx, hb, hml, hown, hts⟩ (va_cwS 1 hts gX3_near_X3_bias rfl rfl rfl (by decide +kernel) ⟨Nat.le_of_ble_eq_true rfl, Nat.le_of_ble_eq_true rfl⟩) rfl hl.1 rfl (Nat.le_of_ble_eq_true rfl) (Nat.zero_le _) (Nat.zero_le _) dX3_near_16 ?_
  refine lv_iload_n hx hb dX3_near_19 rfl (lv_at hl 3 rfl) ?_
  refine lv_i2l hx hb dX3_near_20 rfl ?_
  refine lv_ladd hx hb dX3_near_21 ?_
  refine lv_iload_n hx hb dX3_near_22 rfl (lv_at hl 3 rfl) ?_
  refine lv_lshl hx hb dX3_near_23 rfl ?_
  refine W.lcmp hx hb dX3_near_24 ?_
  refine lv_if_lt (tgt := 30) hx hb dX3_near_25 (by decide) (fun c_25 => ?_) (fun c_25 => ?_)
  · have c_25 := (lg_cmp_lt _ _).mp c_25
    refine lv_lload_n hx hb dX3_near_30 rfl (lv_at hl 1 rfl) ?_
    refine lv_iload_n hx hb dX3_near_31 rfl (lv_at hl 3 rfl) ?_
    refine cl_Pl (c_X3_one l _) ⟨hx, hb, hml, hown, hts⟩ (va_cwS 1 hts gX3_near_X3_one rfl rfl rfl (by decide +kernel) ⟨Nat.le_of_ble_eq_true rfl, Nat.le_of_ble_eq_true rfl⟩) rfl hl.1 rfl (Nat.le_of_ble_eq_true rfl) (Nat.zero_le _) (Nat.zero_le _) dX3_near_32 ?_
    refine W.lcmp hx hb dX3_near_35 ?_
    refine lv_if_ge (tgt := 65) hx hb dX3_near_36 (by decide) (fun c_36 => ?_) (fun c_36 => ?_)
    · have c_36 := (lg_cmp_ge _ _).mp c_36
      refine lv_lconst (v := 1) hx hb dX3_near_65 (by decide) ?_
      refine lv_iload_n hx hb dX3_near_66 rfl (lv_at hl 3 rfl) ?_
      refine lv_lload_n hx hb dX3_near_67 rfl (lv_at hl 1 rfl) ?_
      refine lv_iload_n hx hb dX3_near_68 rfl (lv_at hl 3 rfl) ?_
      refine lv_lshr hx hb dX3_near_69 rfl ?_
      refine lv_iload_n hx hb dX3_near_70 rfl (lv_at hl 3 rfl) ?_
      refine cl_Pl (c_X3_bias l _) ⟨hx, hb, hml, hown, hts⟩ (va_cwS 1 hts gX3_near_X3_bias rfl rfl rfl (by decide +kernel) ⟨Nat.le_of_ble_eq_true rfl, Nat.le_of_ble_eq_true rfl⟩) rfl hl.1 rfl (Nat.le_of_ble_eq_true rfl) (Nat.zero_le _) (Nat.zero_le _) dX3_near_71 ?_
      refine lv_lsub hx hb dX3_near_74 ?_
      refine lv_l2i hx hb dX3_near_75 rfl ?_
      refine lv_isub hx hb dX3_near_76 ?_
      refine lv_lshl hx hb dX3_near_77 rfl ?_
      refine lv_lconst (v := 1) hx hb dX3_near_78 (by decide) ?_
      refine lv_lsub hx hb dX3_near_79 ?_
      refine tpl (fun x3 ex3 => ?_)
      refine lv_lstore (lv' := [(7, .long x3), (5, .long x2), (3, .long x1), (0, .long b), (2, .int k)]) hx hb dX3_near_80 hl (by decide) rfl (fun ls hl => ?_)
      refine lv_lload_n hx hb dX3_near_82 rfl (lv_at hl 2 rfl) ?_
      refine lv_lload hx hb dX3_near_83 (lv_at hl 0 rfl) ?_
      refine lv_ldc2 hx hb hown k78 dX3_near_85 ?_
      refine lv_lxor hx hb dX3_near_88 ?_
      refine lv_land hx hb dX3_near_89 ?_
      refine tpl (fun x4 ex4 => ?_)
      refine lv_lstore (lv' := [(9, .long x4), (7, .long x3), (5, .long x2), (3, .long x1), (0, .long b), (2, .int k)]) hx hb dX3_near_90 hl (by decide) rfl (fun ls hl => ?_)
      refine lv_ldc2 hx hb hown k76 dX3_near_92 ?_
      refine lv_lload_n hx hb dX3_near_95 rfl (lv_at hl 3 rfl) ?_
      refine lv_lload hx hb dX3_near_96 (lv_at hl 1 rfl) ?_
      refine lv_land hx hb dX3_near_98 ?_
      refine lv_lmul hx hb dX3_near_99 ?_
      refine tpl (fun x5 ex5 => ?_)
      refine lv_lstore (lv' := [(11, .long x5), (9, .long x4), (7, .long x3), (5, .long x2), (3, .long x1), (0, .long b), (2, .int k)]) hx hb dX3_near_100 hl (by decide) rfl (fun ls hl => ?_)
      refine lv_lload hx hb dX3_near_102 (lv_at hl 1 rfl) ?_
      refine lv_lload hx hb dX3_near_104 (lv_at hl 2 rfl) ?_
      refine lv_lconst (v := 1) hx hb dX3_near_106 (by decide) ?_
      refine lv_ladd hx hb dX3_near_107 ?_
      refine lv_land hx hb dX3_near_108 ?_
      refine lv_lconst (v := 0) hx hb dX3_near_109 (by decide) ?_
      refine W.lcmp hx hb dX3_near_110 ?_
      refine lv_if_eq (tgt := 118) hx hb dX3_near_111 (by decide) (fun c_111 => ?_) (fun c_111 => ?_)
      · have c_111 := (lg_cmp_eq _ _).mp c_111
        refine lv_iconst (v := 0) hx hb dX3_near_118 (by decide) ?_
        refine lv_istore (lv' := [(13, .int 0), (11, .long x5), (9, .long x4), (7, .long x3), (5, .long x2), (3, .long x1), (0, .long b), (2, .int k)]) hx hb dX3_near_119 hl (by decide) rfl (fun ls hl => ?_)
        refine lv_lload hx hb dX3_near_121 (lv_at hl 1 rfl) ?_
        refine lv_lload hx hb dX3_near_123 (lv_at hl 3 rfl) ?_
        refine lv_lconst (v := 1) hx hb dX3_near_125 (by decide) ?_
        refine lv_ladd hx hb dX3_near_126 ?_
        refine W.lcmp hx hb dX3_near_127 ?_
        refine lv_if_gt (tgt := 146) hx hb dX3_near_128 (by decide) (fun c_128 => ?_) (fun c_128 => ?_)
        · have c_128 := (lg_cmp_gt _ _).mp c_128
          refine lv_iconst (v := 1) hx hb dX3_near_146 (by decide) ?_
          refine lv_goto (tgt := 151) hx hb dX3_near_147 (by decide) ?_
          refine lv_istore (lv' := [(14, .int 1), (13, .int 0), (11, .long x5), (9, .long x4), (7, .long x3), (5, .long x2), (3, .long x1), (0, .long b), (2, .int k)]) hx hb dX3_near_151 hl (by decide) rfl (fun ls hl => ?_)
          refine lv_lload hx hb dX3_near_153 (lv_at hl 5 rfl) ?_
          refine lv_iload hx hb dX3_near_155 (lv_at hl 0 rfl) ?_
          refine lv_if_eq (tgt := 170) hx hb dX3_near_157 (by decide) (fun c6 => absurd (show (1 : Int32) = (0 : Int32) from c6) (by decide)) (fun c6 => ?_)
          refine lv_lload hx hb dX3_near_160 (lv_at hl 3 rfl) ?_
          refine lv_lload hx hb dX3_near_162 (lv_at hl 4 rfl) ?_
          refine lv_ladd hx hb dX3_near_164 ?_
          refine lv_lconst (v := 1) hx hb dX3_near_165 (by decide) ?_
          refine lv_ladd hx hb dX3_near_166 ?_
          refine lv_goto (tgt := 172) hx hb dX3_near_167 (by decide) ?_
          refine lv_lor hx hb dX3_near_172 ?_
          subst ex5 ex4 ex3 ex2 ex1
          exact rt_Pl hx hb hr hlk (Eq.symm (Eq.trans (if_pos c_25) (Eq.trans (if_pos c_36) (Eq.trans (if_pos c_111) (Eq.trans (if_pos c_128) (rfl)))))) dX3_near_173
        · have c_128 := mt (lg_cmp_gt _ _).mpr c_128
          refine lv_lload hx hb dX3_near_131 (lv_at hl 1 rfl) ?_
          refine lv_lload hx hb dX3_near_133 (lv_at hl 3 rfl) ?_
          refine lv_lconst (v := 1) hx hb dX3_near_135 (by decide) ?_
          refine lv_ladd hx hb dX3_near_136 ?_
          refine W.lcmp hx hb dX3_near_137 ?_
          refine lv_if_ne (tgt := 150) hx hb dX3_near_138 (by decide) (fun c_138 => ?_) (fun c_138 => ?_)
          · have c_138 := mt (lg_cmp_eq _ _).mpr c_138
            refine lv_iconst (v := 0) hx hb dX3_near_150 (by decide) ?_
            refine lv_istore (lv' := [(14, .int 0), (13, .int 0), (11, .long x5), (9, .long x4), (7, .long x3), (5, .long x2), (3, .long x1), (0, .long b), (2, .int k)]) hx hb dX3_near_151 hl (by decide) rfl (fun ls hl => ?_)
            refine lv_lload hx hb dX3_near_153 (lv_at hl 5 rfl) ?_
            refine lv_iload hx hb dX3_near_155 (lv_at hl 0 rfl) ?_
            refine lv_if_eq (tgt := 170) hx hb dX3_near_157 (by decide) (fun c7 => ?_) (fun c7 => absurd (show (0 : Int32) = (0 : Int32) by decide) (show ¬ (0 : Int32) = (0 : Int32) from c7))
            refine lv_lload hx hb dX3_near_170 (lv_at hl 3 rfl) ?_
            refine lv_lor hx hb dX3_near_172 ?_
            subst ex5 ex4 ex3 ex2 ex1
            exact rt_Pl hx hb hr hlk (Eq.symm (Eq.trans (if_pos c_25) (Eq.trans (if_pos c_36) (Eq.trans (if_pos c_111) (Eq.trans (if_neg c_128) (Eq.trans (if_neg c_138) (rfl))))))) dX3_near_173
          · have c_138 := (lg_cmp_eq _ _).mp c_138
            refine lv_iload hx hb dX3_near_141 (lv_at hl 0 rfl) ?_
            refine lv_if_eq (tgt := 150) hx hb dX3_near_143 (by decide) (fun c8 => ?_) (fun c8 => absurd (show (0 : Int32) = (0 : Int32) by decide) (show ¬ (0 : Int32) = (0 : Int32) from c8))
            refine lv_iconst (v := 0) hx hb dX3_near_150 (by decide) ?_
            refine lv_istore (lv' := [(14, .int 0), (13, .int 0), (11, .long x5), (9, .long x4), (7, .long x3), (5, .long x2), (3, .long x1), (0, .long b), (2, .int k)]) hx hb dX3_near_151 hl (by decide) rfl (fun ls hl => ?_)
            refine lv_lload hx hb dX3_near_153 (lv_at hl 5 rfl) ?_
            refine lv_iload hx hb dX3_near_155 (lv_at hl 0 rfl) ?_
            refine lv_if_eq (tgt := 170) hx hb dX3_near_157 (by decide) (fun c9 => ?_) (fun c9 => absurd (show (0 : Int32) = (0 : Int32) by decide) (show ¬ (0 : Int32) = (0 : Int32) from c9))
            refine lv_lload hx hb dX3_near_170 (lv_at hl 3 rfl) ?_
            refine lv_lor hx hb dX3_near_172 ?_
            subst ex5 ex4 ex3 ex2 ex1
            exact rt_Pl hx hb hr hlk (Eq.symm (Eq.trans (if_pos c_25) (Eq.trans (if_pos c_36) (Eq.trans (if_pos c_111) (Eq.trans (if_neg c_128) (Eq.trans (if_pos c_138) (rfl))))))) dX3_near_173
      · have c_111 := mt (lg_cmp_eq _ _).mpr c_111
        refine lv_iconst (v := 1) hx hb dX3_near_114 (by decide) ?_
        refine lv_goto (tgt := 119) hx hb dX3_near_115 (by decide) ?_
        refine lv_istore (lv' := [(13, .int 1), (11, .long x5), (9, .long x4), (7, .long x3), (5, .long x2), (3, .long x1), (0, .long b), (2, .int k)]) hx hb dX3_near_119 hl (by decide) rfl (fun ls hl => ?_)
        refine lv_lload hx hb dX3_near_121 (lv_at hl 1 rfl) ?_
        refine lv_lload hx hb dX3_near_123 (lv_at hl 3 rfl) ?_
        refine lv_lconst (v := 1) hx hb dX3_near_125 (by decide) ?_
        refine lv_ladd hx hb dX3_near_126 ?_
        refine W.lcmp hx hb dX3_near_127 ?_
        refine lv_if_gt (tgt := 146) hx hb dX3_near_128 (by decide) (fun c_128 => ?_) (fun c_128 => ?_)
        · have c_128 := (lg_cmp_gt _ _).mp c_128
          refine lv_iconst (v := 1) hx hb dX3_near_146 (by decide) ?_
          refine lv_goto (tgt := 151) hx hb dX3_near_147 (by decide) ?_
          refine lv_istore (lv' := [(14, .int 1), (13, .int 1), (11, .long x5), (9, .long x4), (7, .long x3), (5, .long x2), (3, .long x1), (0, .long b), (2, .int k)]) hx hb dX3_near_151 hl (by decide) rfl (fun ls hl => ?_)
          refine lv_lload hx hb dX3_near_153 (lv_at hl 5 rfl) ?_
          refine lv_iload hx hb dX3_near_155 (lv_at hl 0 rfl) ?_
          refine lv_if_eq (tgt := 170) hx hb dX3_near_157 (by decide) (fun c10 => absurd (show (1 : Int32) = (0 : Int32) from c10) (by decide)) (fun c10 => ?_)
          refine lv_lload hx hb dX3_near_160 (lv_at hl 3 rfl) ?_
          refine lv_lload hx hb dX3_near_162 (lv_at hl 4 rfl) ?_
          refine lv_ladd hx hb dX3_near_164 ?_
          refine lv_lconst (v := 1) hx hb dX3_near_165 (by decide) ?_
          refine lv_ladd hx hb dX3_near_166 ?_
          refine lv_goto (tgt := 172) hx hb dX3_near_167 (by decide) ?_
          refine lv_lor hx hb dX3_near_172 ?_
          subst ex5 ex4 ex3 ex2 ex1
          exact rt_Pl hx hb hr hlk (Eq.symm (Eq.trans (if_pos c_25) (Eq.trans (if_pos c_36) (Eq.trans (if_neg c_111) (Eq.trans (if_pos c_128) (rfl)))))) dX3_near_173
        · have c_128 := mt (lg_cmp_gt _ _).mpr c_128
          refine lv_lload hx hb dX3_near_131 (lv_at hl 1 rfl) ?_
          refine lv_lload hx hb dX3_near_133 (lv_at hl 3 rfl) ?_
          refine lv_lconst (v := 1) hx hb dX3_near_135 (by decide) ?_
          refine lv_ladd hx hb dX3_near_136 ?_
          refine W.lcmp hx hb dX3_near_137 ?_
          refine lv_if_ne (tgt := 150) hx hb dX3_near_138 (by decide) (fun c_138 => ?_) (fun c_138 => ?_)
          · have c_138 := mt (lg_cmp_eq _ _).mpr c_138
            refine lv_iconst (v := 0) hx hb dX3_near_150 (by decide) ?_
            refine lv_istore (lv' := [(14, .int 0), (13, .int 1), (11, .long x5), (9, .long x4), (7, .long x3), (5, .long x2), (3, .long x1), (0, .long b), (2, .int k)]) hx hb dX3_near_151 hl (by decide) rfl (fun ls hl => ?_)
            refine lv_lload hx hb dX3_near_153 (lv_at hl 5 rfl) ?_
            refine lv_iload hx hb dX3_near_155 (lv_at hl 0 rfl) ?_
            refine lv_if_eq (tgt := 170) hx hb dX3_near_157 (by decide) (fun c11 => ?_) (fun c11 => absurd (show (0 : Int32) = (0 : Int32) by decide) (show ¬ (0 : Int32) = (0 : Int32) from c11))
            refine lv_lload hx hb dX3_near_170 (lv_at hl 3 rfl) ?_
            refine lv_lor hx hb dX3_near_172 ?_
            subst ex5 ex4 ex3 ex2 ex1
            exact rt_Pl hx hb hr hlk (Eq.symm (Eq.trans (if_pos c_25) (Eq.trans (if_pos c_36) (Eq.trans (if_neg c_111) (Eq.trans (if_neg c_128) (Eq.trans (if_neg c_138) (rfl))))))) dX3_near_173
          · have c_138 := (lg_cmp_eq _ _).mp c_138
            refine lv_iload hx hb dX3_near_141 (lv_at hl 0 rfl) ?_
            refine lv_if_eq (tgt := 150) hx hb dX3_near_143 (by decide) (fun c12 => absurd (show (1 : Int32) = (0 : Int32) from c12) (by decide)) (fun c12 => ?_)
            refine lv_iconst (v := 1) hx hb dX3_near_146 (by decide) ?_
            refine lv_goto (tgt := 151) hx hb dX3_near_147 (by decide) ?_
            refine lv_istore (lv' := [(14, .int 1), (13, .int 1), (11, .long x5), (9, .long x4), (7, .long x3), (5, .long x2), (3, .long x1), (0, .long b), (2, .int k)]) hx hb dX3_near_151 hl (by decide) rfl (fun ls hl => ?_)
            refine lv_lload hx hb dX3_near_153 (lv_at hl 5 rfl) ?_
            refine lv_iload hx hb dX3_near_155 (lv_at hl 0 rfl) ?_
            refine lv_if_eq (tgt := 170) hx hb dX3_near_157 (by decide) (fun c13 => absurd (show (1 : Int32) = (0 : Int32) from c13) (by decide)) (fun c13 => ?_)
            refine lv_lload hx hb dX3_near_160 (lv_at hl 3 rfl) ?_
            refine lv_lload hx hb dX3_near_162 (lv_at hl 4 rfl) ?_
            refine lv_ladd hx hb dX3_near_164 ?_
            refine lv_lconst (v := 1) hx hb dX3_near_165 (by decide) ?_
            refine lv_ladd hx hb dX3_near_166 ?_
            refine lv_goto (tgt := 172) hx hb dX3_near_167 (by decide) ?_
            refine lv_lor hx hb dX3_near_172 ?_
            subst ex5 ex4 ex3 ex2 ex1
            exact rt_Pl hx hb hr hlk (Eq.symm (Eq.trans (if_pos c_25) (Eq.trans (if_pos c_36) (Eq.trans (if_neg c_111) (Eq.trans (if_neg c_128) (Eq.trans (if_pos c_138) (rfl))))))) dX3_near_173
    · have c_36 := mt (lg_cmp_ge _ _).mpr c_36
      refine lv_lload_n hx hb dX3_near_39 rfl (lv_at hl 1 rfl) ?_
      refine lv_iload_n hx hb dX3_near_40 rfl (lv_at hl 3 rfl) ?_
      refine cl_Pl (c_X3_one l _) ⟨hx, hb, hml, hown, hts⟩ (va_cwS 1 hts gX3_near_X3_one rfl rfl rfl (by decide +kernel) ⟨Nat.le_of_ble_eq_true rfl, Nat.le_of_ble_eq_true rfl⟩) rfl hl.1 rfl (Nat.le_of_ble_eq_true rfl) (Nat.zero_le _) (Nat.zero_le _) dX3_near_41 ?_
      refine lv_lconst (v := 1) hx hb dX3_near_44 (by decide) ?_
      refine lv_iload_n hx hb dX3_near_45 rfl (lv_at hl 3 rfl) ?_
      refine lv_lshl hx hb dX3_near_46 rfl ?_
      refine lv_lsub hx hb dX3_near_47 ?_
      refine W.lcmp hx hb dX3_near_48 ?_
      refine lv_if_le (tgt := 62) hx hb dX3_near_49 (by decide) (fun c_49 => ?_) (fun c_49 => ?_)
      · have c_49 := (lg_cmp_le _ _).mp c_49
        refine lv_lload hx hb dX3_near_62 (lv_at hl 0 rfl) ?_
        subst ex2 ex1
        exact rt_Pl hx hb hr hlk (Eq.symm (Eq.trans (if_pos c_25) (Eq.trans (if_neg c_36) (Eq.trans (if_pos c_49) (rfl))))) dX3_near_64
      · have c_49 := mt (lg_cmp_le _ _).mpr c_49
        refine lv_lload hx hb dX3_near_52 (lv_at hl 0 rfl) ?_
        refine lv_iload_n hx hb dX3_near_54 rfl (lv_at hl 3 rfl) ?_
        refine cl_Pl (c_X3_one l _) ⟨hx, hb, hml, hown, hts⟩ (va_cwS 1 hts gX3_near_X3_one rfl rfl rfl (by decide +kernel) ⟨Nat.le_of_ble_eq_true rfl, Nat.le_of_ble_eq_true rfl⟩) rfl hl.1 rfl (Nat.le_of_ble_eq_true rfl) (Nat.zero_le _) (Nat.zero_le _) dX3_near_55 ?_
        refine lv_lor hx hb dX3_near_58 ?_
        refine lv_goto (tgt := 64) hx hb dX3_near_59 (by decide) ?_
        subst ex2 ex1
        exact rt_Pl hx hb hr hlk (Eq.symm (Eq.trans (if_pos c_25) (Eq.trans (if_neg c_36) (Eq.trans (if_neg c_49) (rfl))))) dX3_near_64
  · have c_25 := mt (lg_cmp_lt _ _).mpr c_25
    refine lv_lload_n hx hb dX3_near_28 rfl (lv_at hl 2 rfl) ?_
    subst ex2 ex1
    exact rt_Pl hx hb hr hlk (Eq.symm (Eq.trans (if_neg c_25) (rfl))) dX3_near_29

def f_X3_half (b : Int64) (k : Int32) : Int64 := let x1 := f_X3_amount b k; if x1 = (f_X3_endless k) then (b) else (if (x1 >>> (Int32.toInt64 k &&& 63)) ≤ 1 then (let x2 := x1 >>> (Int32.toInt64 1 &&& 63); (b &&& (f_X3_sign k)) ||| (x2 + ((x1 &&& x2) &&& 1))) else (b - (1 <<< (Int32.toInt64 k &&& 63))))
set_option maxHeartbeats 4000000 in
set_option maxRecDepth 100000 in
theorem c_X3_half (l : Launch) (b : Int64) (k : Int32) : MetPl l yX3_half wsX3_half { frames := 2, cells := 0, slots := 0, locals := 42 } [.long b, .int k] (f_X3_half b k) := by
  refine en_Pl (cc := cX3_half) (maxL := 7) (ret := (some .long)) (by decide) rfl (Nat.le_of_ble_eq_true rfl) ?_
  intro p e st m below meth c ls hx hb hr hml hts hown hlk hl
  have hown : st.vm.findClass RX3 = some m.cls := hown
  have hl : lv_has ls 7 [(0, .long b), (2, .int k)] := hl
  refine lv_lload_n hx hb dX3_half_0 rfl (lv_at hl 0 rfl) ?_
  refine lv_iload_n hx hb dX3_half_1 rfl (lv_at hl 1 rfl) ?_
  refine cl_Pl (c_X3_amount l _ _) ⟨hx, hb, hml, hown, hts⟩ (va_cwS 2 hts gX3_half_X3_amount rfl rfl rfl (by decide +kernel) ⟨Nat.le_of_ble_eq_true rfl, Nat.le_of_ble_eq_true rfl⟩) rfl hl.1 rfl (Nat.le_of_ble_eq_true rfl) (Nat.zero_le _) (Nat.zero_le _) dX3_half_2 ?_
  refine tpl (fun x1 ex1 => ?_)
  refine lv_lstore_n (lv' := [(3, .long x1), (0, .long b), (2, .int k)]) hx hb dX3_half_5 rfl hl (by decide) rfl (fun ls hl => ?_)
  refine lv_lload_n hx hb dX3_half_6 rfl (lv_at hl 0 rfl) ?_
  refine lv_iload_n hx hb dX3_half_7 rfl (lv_at hl 2 rfl) ?_
  refine cl_Pl (c_X3_endless l _) ⟨hx, hb, hml, hown, hts⟩ (va_cwS 1 hts gX3_half_X3_endless rfl rfl rfl (by decide +kernel) ⟨Nat.le_of_ble_eq_true rfl, Nat.le_of_ble_eq_true rfl⟩) rfl hl.1 rfl (Nat.le_of_ble_eq_true rfl) (Nat.zero_le _) (Nat.zero_le _) dX3_half_8 ?_
  refine W.lcmp hx hb dX3_half_11 ?_
  refine lv_if_ne (tgt := 17) hx hb dX3_half_12 (by decide) (fun c_12 => ?_) (fun c_12 => ?_)
  · have c_12 := mt (lg_cmp_eq _ _).mpr c_12
    refine lv_lload_n hx hb dX3_half_17 rfl (lv_at hl 0 rfl) ?_
    refine lv_iload_n hx hb dX3_half_18 rfl (lv_at hl 2 rfl) ?_
    refine lv_lshr hx hb dX3_half_19 rfl ?_
    refine lv_lconst (v := 1) hx hb dX3_half_20 (by decide) ?_
    refine W.lcmp hx hb dX3_half_21 ?_
    refine lv_if_le (tgt := 31) hx hb dX3_half_22 (by decide) (fun c_22 => ?_) (fun c_22 => ?_)
    · have c_22 := (lg_cmp_le _ _).mp c_22
      refine lv_lload_n hx hb dX3_half_31 rfl (lv_at hl 0 rfl) ?_
      refine lv_iconst (v := 1) hx hb dX3_half_32 (by decide) ?_
      refine lv_lshr hx hb dX3_half_33 rfl ?_
      refine tpl (fun x2 ex2 => ?_)
      refine lv_lstore (lv' := [(5, .long x2), (3, .long x1), (0, .long b), (2, .int k)]) hx hb dX3_half_34 hl (by decide) rfl (fun ls hl => ?_)
      refine lv_lload_n hx hb dX3_half_36 rfl (lv_at hl 2 rfl) ?_
      refine lv_iload_n hx hb dX3_half_37 rfl (lv_at hl 3 rfl) ?_
      refine cl_Pl (c_X3_sign l _) ⟨hx, hb, hml, hown, hts⟩ (va_cwS 1 hts gX3_half_X3_sign rfl rfl rfl (by decide +kernel) ⟨Nat.le_of_ble_eq_true rfl, Nat.le_of_ble_eq_true rfl⟩) rfl hl.1 rfl (Nat.le_of_ble_eq_true rfl) (Nat.zero_le _) (Nat.zero_le _) dX3_half_38 ?_
      refine lv_land hx hb dX3_half_41 ?_
      refine lv_lload hx hb dX3_half_42 (lv_at hl 0 rfl) ?_
      refine lv_lload_n hx hb dX3_half_44 rfl (lv_at hl 1 rfl) ?_
      refine lv_lload hx hb dX3_half_45 (lv_at hl 0 rfl) ?_
      refine lv_land hx hb dX3_half_47 ?_
      refine lv_lconst (v := 1) hx hb dX3_half_48 (by decide) ?_
      refine lv_land hx hb dX3_half_49 ?_
      refine lv_ladd hx hb dX3_half_50 ?_
      refine lv_lor hx hb dX3_half_51 ?_
      subst ex2 ex1
      exact rt_Pl hx hb hr hlk (Eq.symm (Eq.trans (if_neg c_12) (Eq.trans (if_pos c_22) (rfl)))) dX3_half_52
    · have c_22 := mt (lg_cmp_le _ _).mpr c_22
      refine lv_lload_n hx hb dX3_half_25 rfl (lv_at hl 1 rfl) ?_
      refine lv_lconst (v := 1) hx hb dX3_half_26 (by decide) ?_
      refine lv_iload_n hx hb dX3_half_27 rfl (lv_at hl 2 rfl) ?_
      refine lv_lshl hx hb dX3_half_28 rfl ?_
      refine lv_lsub hx hb dX3_half_29 ?_
      subst ex1
      exact rt_Pl hx hb hr hlk (Eq.symm (Eq.trans (if_neg c_12) (Eq.trans (if_neg c_22) (rfl)))) dX3_half_30
  · have c_12 := (lg_cmp_eq _ _).mp c_12
    refine lv_lload_n hx hb dX3_half_15 rfl (lv_at hl 1 rfl) ?_
    subst ex1
    exact rt_Pl hx hb hr hlk (Eq.symm (Eq.trans (if_pos c_12) (rfl))) dX3_half_16

def f_X3_twice (b : Int64) (k : Int32) : Int64 := let x1 := f_X3_amount b k; if (x1 >>> (Int32.toInt64 k &&& 63)) < (2 * (f_X3_bias k)) then (if (x1 >>> (Int32.toInt64 k &&& 63)) = 0 then ((b &&& (f_X3_sign k)) ||| (2 * x1)) else ((b &&& (f_X3_sign k)) ||| (x1 + (1 <<< (Int32.toInt64 k &&& 63))))) else ((b &&& (f_X3_sign k)) ||| (f_X3_endless k))
set_option maxHeartbeats 4000000 in
set_option maxRecDepth 100000 in
theorem c_X3_twice (l : Launch) (b : Int64) (k : Int32) : MetPl l yX3_twice wsX3_twice { frames := 2, cells := 0, slots := 0, locals := 42 } [.long b, .int k] (f_X3_twice b k) := by
  refine en_Pl (cc := cX3_twice) (maxL := 5) (ret := (some .long)) (by decide) rfl (Nat.le_of_ble_eq_true rfl) ?_
  intro p e st m below meth c ls hx hb hr hml hts hown hlk hl
  have hown : st.vm.findClass RX3 = some m.cls := hown
  have hl : lv_has ls 5 [(0, .long b), (2, .int k)] := hl
  have k76 := hts (.constantLong RX3 76 (2)) (by decide +kernel)
  refine lv_lload_n hx hb dX3_twice_0 rfl (lv_at hl 0 rfl) ?_
  refine lv_iload_n hx hb dX3_twice_1 rfl (lv_at hl 1 rfl) ?_
  refine cl_Pl (c_X3_amount l _ _) ⟨hx, hb, hml, hown, hts⟩ (va_cwS 2 hts gX3_twice_X3_amount rfl rfl rfl (by decide +kernel) ⟨Nat.le_of_ble_eq_true rfl, Nat.le_of_ble_eq_true rfl⟩) rfl hl.1 rfl (Nat.le_of_ble_eq_true rfl) (Nat.zero_le _) (Nat.zero_le _) dX3_twice_2 ?_
  refine tpl (fun x1 ex1 => ?_)
  refine lv_lstore_n (lv' := [(3, .long x1), (0, .long b), (2, .int k)]) hx hb dX3_twice_5 rfl hl (by decide) rfl (fun ls hl => ?_)
  refine lv_lload_n hx hb dX3_twice_6 rfl (lv_at hl 0 rfl) ?_
  refine lv_iload_n hx hb dX3_twice_7 rfl (lv_at hl 2 rfl) ?_
  refine lv_lshr hx hb dX3_twice_8 rfl ?_
  refine lv_ldc2 hx hb hown k76 dX3_twice_9 ?_
  refine lv_iload_n hx hb dX3_twice_12 rfl (lv_at hl 2 rfl) ?_
  refine cl_Pl (c_X3_bias l _) ⟨hx, hb, hml, hown, hts⟩ (va_cwS 1 hts gX3_twice_X3_bias rfl rfl rfl (by decide +kernel) ⟨Nat.le_of_ble_eq_true rfl, Nat.le_of_ble_eq_true rfl⟩) rfl hl.1 rfl (Nat.le_of_ble_eq_true rfl) (Nat.zero_le _) (Nat.zero_le _) dX3_twice_13 ?_
  refine lv_lmul hx hb dX3_twice_16 ?_
  refine W.lcmp hx hb dX3_twice_17 ?_
  refine lv_if_lt (tgt := 33) hx hb dX3_twice_18 (by decide) (fun c_18 => ?_) (fun c_18 => ?_)
  · have c_18 := (lg_cmp_lt _ _).mp c_18
    refine lv_lload_n hx hb dX3_twice_33 rfl (lv_at hl 1 rfl) ?_
    refine lv_iload_n hx hb dX3_twice_34 rfl (lv_at hl 2 rfl) ?_
    refine cl_Pl (c_X3_sign l _) ⟨hx, hb, hml, hown, hts⟩ (va_cwS 1 hts gX3_twice_X3_sign rfl rfl rfl (by decide +kernel) ⟨Nat.le_of_ble_eq_true rfl, Nat.le_of_ble_eq_true rfl⟩) rfl hl.1 rfl (Nat.le_of_ble_eq_true rfl) (Nat.zero_le _) (Nat.zero_le _) dX3_twice_35 ?_
    refine lv_land hx hb dX3_twice_38 ?_
    refine lv_lload_n hx hb dX3_twice_39 rfl (lv_at hl 0 rfl) ?_
    refine lv_iload_n hx hb dX3_twice_40 rfl (lv_at hl 2 rfl) ?_
    refine lv_lshr hx hb dX3_twice_41 rfl ?_
    refine lv_lconst (v := 0) hx hb dX3_twice_42 (by decide) ?_
    refine W.lcmp hx hb dX3_twice_43 ?_
    refine lv_if_ne (tgt := 55) hx hb dX3_twice_44 (by decide) (fun c_44 => ?_) (fun c_44 => ?_)
    · have c_44 := mt (lg_cmp_eq _ _).mpr c_44
      refine lv_lload_n hx hb dX3_twice_55 rfl (lv_at hl 0 rfl) ?_
      refine lv_lconst (v := 1) hx hb dX3_twice_56 (by decide) ?_
      refine lv_iload_n hx hb dX3_twice_57 rfl (lv_at hl 2 rfl) ?_
      refine lv_lshl hx hb dX3_twice_58 rfl ?_
      refine lv_ladd hx hb dX3_twice_59 ?_
      refine lv_lor hx hb dX3_twice_60 ?_
      subst ex1
      exact rt_Pl hx hb hr hlk (Eq.symm (Eq.trans (if_pos c_18) (Eq.trans (if_neg c_44) (rfl)))) dX3_twice_61
    · have c_44 := (lg_cmp_eq _ _).mp c_44
      refine lv_ldc2 hx hb hown k76 dX3_twice_47 ?_
      refine lv_lload_n hx hb dX3_twice_50 rfl (lv_at hl 0 rfl) ?_
      refine lv_lmul hx hb dX3_twice_51 ?_
      refine lv_goto (tgt := 60) hx hb dX3_twice_52 (by decide) ?_
      refine lv_lor hx hb dX3_twice_60 ?_
      subst ex1
      exact rt_Pl hx hb hr hlk (Eq.symm (Eq.trans (if_pos c_18) (Eq.trans (if_pos c_44) (rfl)))) dX3_twice_61
  · have c_18 := mt (lg_cmp_lt _ _).mpr c_18
    refine lv_lload_n hx hb dX3_twice_21 rfl (lv_at hl 1 rfl) ?_
    refine lv_iload_n hx hb dX3_twice_22 rfl (lv_at hl 2 rfl) ?_
    refine cl_Pl (c_X3_sign l _) ⟨hx, hb, hml, hown, hts⟩ (va_cwS 1 hts gX3_twice_X3_sign rfl rfl rfl (by decide +kernel) ⟨Nat.le_of_ble_eq_true rfl, Nat.le_of_ble_eq_true rfl⟩) rfl hl.1 rfl (Nat.le_of_ble_eq_true rfl) (Nat.zero_le _) (Nat.zero_le _) dX3_twice_23 ?_
    refine lv_land hx hb dX3_twice_26 ?_
    refine lv_iload_n hx hb dX3_twice_27 rfl (lv_at hl 2 rfl) ?_
    refine cl_Pl (c_X3_endless l _) ⟨hx, hb, hml, hown, hts⟩ (va_cwS 1 hts gX3_twice_X3_endless rfl rfl rfl (by decide +kernel) ⟨Nat.le_of_ble_eq_true rfl, Nat.le_of_ble_eq_true rfl⟩) rfl hl.1 rfl (Nat.le_of_ble_eq_true rfl) (Nat.zero_le _) (Nat.zero_le _) dX3_twice_28 ?_
    refine lv_lor hx hb dX3_twice_31 ?_
    subst ex1
    exact rt_Pl hx hb hr hlk (Eq.symm (Eq.trans (if_neg c_18) (rfl))) dX3_twice_32

def f_X3_place (b : Int64) : Int64 := if 0 ≤ b then (b) else (b ^^^ 9223372036854775807)
set_option maxHeartbeats 4000000 in
set_option maxRecDepth 100000 in
theorem c_X3_place (l : Launch) (b : Int64) : MetPl l yX3_place wsX3_place { frames := 0, cells := 0, slots := 0, locals := 0 } [.long b] (f_X3_place b) := by
  refine en_Pl (cc := cX3_place) (maxL := 2) (ret := (some .long)) (by decide) rfl (Nat.le_of_ble_eq_true rfl) ?_
  intro p e st m below meth c ls hx hb hr hml hts hown hlk hl
  have hown : st.vm.findClass RX3 = some m.cls := hown
  have hl : lv_has ls 2 [(0, .long b)] := hl
  have k94 := hts (.constantLong RX3 94 (9223372036854775807)) (by decide +kernel)
  refine lv_lload_n hx hb dX3_place_0 rfl (lv_at hl 0 rfl) ?_
  refine lv_lconst (v := 0) hx hb dX3_place_1 (by decide) ?_
  refine W.lcmp hx hb dX3_place_2 ?_
  refine lv_if_ge (tgt := 14) hx hb dX3_place_3 (by decide) (fun c_3 => ?_) (fun c_3 => ?_)
  · have c_3 := (lg_cmp_ge _ _).mp c_3
    refine lv_lload_n hx hb dX3_place_14 rfl (lv_at hl 0 rfl) ?_
    exact rt_Pl hx hb hr hlk (Eq.symm (Eq.trans (if_pos c_3) (rfl))) dX3_place_15
  · have c_3 := mt (lg_cmp_ge _ _).mpr c_3
    refine lv_lload_n hx hb dX3_place_6 rfl (lv_at hl 0 rfl) ?_
    refine lv_ldc2 hx hb hown k94 dX3_place_7 ?_
    refine lv_lxor hx hb dX3_place_10 ?_
    refine lv_goto (tgt := 15) hx hb dX3_place_11 (by decide) ?_
    exact rt_Pl hx hb hr hlk (Eq.symm (Eq.trans (if_neg c_3) (rfl))) dX3_place_15

def f_X3_place4 (b : Int32) : Int32 := if 0 ≤ b then (b) else (b ^^^ 2147483647)
set_option maxHeartbeats 4000000 in
set_option maxRecDepth 100000 in
theorem c_X3_place4 (l : Launch) (b : Int32) : MetPi l yX3_place4 wsX3_place4 { frames := 0, cells := 0, slots := 0, locals := 0 } [.int b] (f_X3_place4 b) := by
  refine en_Pi (cc := cX3_place4) (maxL := 1) (ret := (some .int)) (by decide) rfl (Nat.le_of_ble_eq_true rfl) ?_
  intro p e st m below meth c ls hx hb hr hml hts hown hlk hl
  have hown : st.vm.findClass RX3 = some m.cls := hown
  have hl : lv_has ls 1 [(0, .int b)] := hl
  have k96 := hts (.constant RX3 96 (2147483647)) (by decide +kernel)
  refine lv_iload_n hx hb dX3_place4_0 rfl (lv_at hl 0 rfl) ?_
  refine lv_if_ge (tgt := 11) hx hb dX3_place4_1 (by decide) (fun c_1 => ?_) (fun c_1 => ?_)
  · refine lv_iload_n hx hb dX3_place4_11 rfl (lv_at hl 0 rfl) ?_
    exact rt_Pi hx hb hr hlk (Eq.symm (Eq.trans (if_pos c_1) (rfl))) dX3_place4_12
  · refine lv_iload_n hx hb dX3_place4_4 rfl (lv_at hl 0 rfl) ?_
    refine lv_ldc hx hb hown k96 dX3_place4_5 ?_
    refine lv_ixor hx hb dX3_place4_7 ?_
    refine lv_goto (tgt := 12) hx hb dX3_place4_8 (by decide) ?_
    exact rt_Pi hx hb hr hlk (Eq.symm (Eq.trans (if_neg c_1) (rfl))) dX3_place4_12

def f_X3_greater (b : Int64) (g : Int64) : Int64 := if (f_X3_place b) < (f_X3_place g) then (g) else (b)
set_option maxHeartbeats 4000000 in
set_option maxRecDepth 100000 in
theorem c_X3_greater (l : Launch) (b : Int64) (g : Int64) : MetPl l yX3_greater wsX3_greater { frames := 1, cells := 0, slots := 0, locals := 21 } [.long b, .long g] (f_X3_greater b g) := by
  refine en_Pl (cc := cX3_greater) (maxL := 4) (ret := (some .long)) (by decide) rfl (Nat.le_of_ble_eq_true rfl) ?_
  intro p e st m below meth c ls hx hb hr hml hts hown hlk hl
  have hown : st.vm.findClass RX3 = some m.cls := hown
  have hl : lv_has ls 4 [(0, .long b), (2, .long g)] := hl
  refine lv_lload_n hx hb dX3_greater_0 rfl (lv_at hl 0 rfl) ?_
  refine cl_Pl (c_X3_place l _) ⟨hx, hb, hml, hown, hts⟩ (va_cwS 1 hts gX3_greater_X3_place rfl rfl rfl (by decide +kernel) ⟨Nat.le_of_ble_eq_true rfl, Nat.le_of_ble_eq_true rfl⟩) rfl hl.1 rfl (Nat.le_of_ble_eq_true rfl) (Nat.zero_le _) (Nat.zero_le _) dX3_greater_1 ?_
  refine lv_lload_n hx hb dX3_greater_4 rfl (lv_at hl 1 rfl) ?_
  refine cl_Pl (c_X3_place l _) ⟨hx, hb, hml, hown, hts⟩ (va_cwS 1 hts gX3_greater_X3_place rfl rfl rfl (by decide +kernel) ⟨Nat.le_of_ble_eq_true rfl, Nat.le_of_ble_eq_true rfl⟩) rfl hl.1 rfl (Nat.le_of_ble_eq_true rfl) (Nat.zero_le _) (Nat.zero_le _) dX3_greater_5 ?_
  refine W.lcmp hx hb dX3_greater_8 ?_
  refine lv_if_lt (tgt := 16) hx hb dX3_greater_9 (by decide) (fun c_9 => ?_) (fun c_9 => ?_)
  · have c_9 := (lg_cmp_lt _ _).mp c_9
    refine lv_lload_n hx hb dX3_greater_16 rfl (lv_at hl 1 rfl) ?_
    exact rt_Pl hx hb hr hlk (Eq.symm (Eq.trans (if_pos c_9) (rfl))) dX3_greater_17
  · have c_9 := mt (lg_cmp_lt _ _).mpr c_9
    refine lv_lload_n hx hb dX3_greater_12 rfl (lv_at hl 0 rfl) ?_
    refine lv_goto (tgt := 17) hx hb dX3_greater_13 (by decide) ?_
    exact rt_Pl hx hb hr hlk (Eq.symm (Eq.trans (if_neg c_9) (rfl))) dX3_greater_17

def f_X3_lesser (b : Int64) (g : Int64) : Int64 := if (f_X3_place g) < (f_X3_place b) then (g) else (b)
set_option maxHeartbeats 4000000 in
set_option maxRecDepth 100000 in
theorem c_X3_lesser (l : Launch) (b : Int64) (g : Int64) : MetPl l yX3_lesser wsX3_lesser { frames := 1, cells := 0, slots := 0, locals := 21 } [.long b, .long g] (f_X3_lesser b g) := by
  refine en_Pl (cc := cX3_lesser) (maxL := 4) (ret := (some .long)) (by decide) rfl (Nat.le_of_ble_eq_true rfl) ?_
  intro p e st m below meth c ls hx hb hr hml hts hown hlk hl
  have hown : st.vm.findClass RX3 = some m.cls := hown
  have hl : lv_has ls 4 [(0, .long b), (2, .long g)] := hl
  refine lv_lload_n hx hb dX3_lesser_0 rfl (lv_at hl 0 rfl) ?_
  refine cl_Pl (c_X3_place l _) ⟨hx, hb, hml, hown, hts⟩ (va_cwS 1 hts gX3_lesser_X3_place rfl rfl rfl (by decide +kernel) ⟨Nat.le_of_ble_eq_true rfl, Nat.le_of_ble_eq_true rfl⟩) rfl hl.1 rfl (Nat.le_of_ble_eq_true rfl) (Nat.zero_le _) (Nat.zero_le _) dX3_lesser_1 ?_
  refine lv_lload_n hx hb dX3_lesser_4 rfl (lv_at hl 1 rfl) ?_
  refine cl_Pl (c_X3_place l _) ⟨hx, hb, hml, hown, hts⟩ (va_cwS 1 hts gX3_lesser_X3_place rfl rfl rfl (by decide +kernel) ⟨Nat.le_of_ble_eq_true rfl, Nat.le_of_ble_eq_true rfl⟩) rfl hl.1 rfl (Nat.le_of_ble_eq_true rfl) (Nat.zero_le _) (Nat.zero_le _) dX3_lesser_5 ?_
  refine W.lcmp hx hb dX3_lesser_8 ?_
  refine lv_if_gt (tgt := 16) hx hb dX3_lesser_9 (by decide) (fun c_9 => ?_) (fun c_9 => ?_)
  · have c_9 := (lg_cmp_gt _ _).mp c_9
    refine lv_lload_n hx hb dX3_lesser_16 rfl (lv_at hl 1 rfl) ?_
    exact rt_Pl hx hb hr hlk (Eq.symm (Eq.trans (if_pos c_9) (rfl))) dX3_lesser_17
  · have c_9 := mt (lg_cmp_gt _ _).mpr c_9
    refine lv_lload_n hx hb dX3_lesser_12 rfl (lv_at hl 0 rfl) ?_
    refine lv_goto (tgt := 17) hx hb dX3_lesser_13 (by decide) ?_
    exact rt_Pl hx hb hr hlk (Eq.symm (Eq.trans (if_neg c_9) (rfl))) dX3_lesser_17

def f_X3_greater4 (b : Int32) (g : Int32) : Int32 := if (f_X3_place4 b) < (f_X3_place4 g) then (g) else (b)
set_option maxHeartbeats 4000000 in
set_option maxRecDepth 100000 in
theorem c_X3_greater4 (l : Launch) (b : Int32) (g : Int32) : MetPi l yX3_greater4 wsX3_greater4 { frames := 1, cells := 0, slots := 0, locals := 20 } [.int b, .int g] (f_X3_greater4 b g) := by
  refine en_Pi (cc := cX3_greater4) (maxL := 2) (ret := (some .int)) (by decide) rfl (Nat.le_of_ble_eq_true rfl) ?_
  intro p e st m below meth c ls hx hb hr hml hts hown hlk hl
  have hown : st.vm.findClass RX3 = some m.cls := hown
  have hl : lv_has ls 2 [(0, .int b), (1, .int g)] := hl
  refine lv_iload_n hx hb dX3_greater4_0 rfl (lv_at hl 0 rfl) ?_
  refine cl_Pi (c_X3_place4 l _) ⟨hx, hb, hml, hown, hts⟩ (va_cwS 1 hts gX3_greater4_X3_place4 rfl rfl rfl (by decide +kernel) ⟨Nat.le_of_ble_eq_true rfl, Nat.le_of_ble_eq_true rfl⟩) rfl hl.1 rfl (Nat.le_of_ble_eq_true rfl) (Nat.zero_le _) (Nat.zero_le _) dX3_greater4_1 ?_
  refine lv_iload_n hx hb dX3_greater4_4 rfl (lv_at hl 1 rfl) ?_
  refine cl_Pi (c_X3_place4 l _) ⟨hx, hb, hml, hown, hts⟩ (va_cwS 1 hts gX3_greater4_X3_place4 rfl rfl rfl (by decide +kernel) ⟨Nat.le_of_ble_eq_true rfl, Nat.le_of_ble_eq_true rfl⟩) rfl hl.1 rfl (Nat.le_of_ble_eq_true rfl) (Nat.zero_le _) (Nat.zero_le _) dX3_greater4_5 ?_
  refine lv_icmp_lt (tgt := 15) hx hb dX3_greater4_8 (by decide) (fun c_8 => ?_) (fun c_8 => ?_)
  · refine lv_iload_n hx hb dX3_greater4_15 rfl (lv_at hl 1 rfl) ?_
    exact rt_Pi hx hb hr hlk (Eq.symm (Eq.trans (if_pos c_8) (rfl))) dX3_greater4_16
  · refine lv_iload_n hx hb dX3_greater4_11 rfl (lv_at hl 0 rfl) ?_
    refine lv_goto (tgt := 16) hx hb dX3_greater4_12 (by decide) ?_
    exact rt_Pi hx hb hr hlk (Eq.symm (Eq.trans (if_neg c_8) (rfl))) dX3_greater4_16

def f_X3_lesser4 (b : Int32) (g : Int32) : Int32 := if (f_X3_place4 g) < (f_X3_place4 b) then (g) else (b)
set_option maxHeartbeats 4000000 in
set_option maxRecDepth 100000 in
theorem c_X3_lesser4 (l : Launch) (b : Int32) (g : Int32) : MetPi l yX3_lesser4 wsX3_lesser4 { frames := 1, cells := 0, slots := 0, locals := 20 } [.int b, .int g] (f_X3_lesser4 b g) := by
  refine en_Pi (cc := cX3_lesser4) (maxL := 2) (ret := (some .int)) (by decide) rfl (Nat.le_of_ble_eq_true rfl) ?_
  intro p e st m below meth c ls hx hb hr hml hts hown hlk hl
  have hown : st.vm.findClass RX3 = some m.cls := hown
  have hl : lv_has ls 2 [(0, .int b), (1, .int g)] := hl
  refine lv_iload_n hx hb dX3_lesser4_0 rfl (lv_at hl 0 rfl) ?_
  refine cl_Pi (c_X3_place4 l _) ⟨hx, hb, hml, hown, hts⟩ (va_cwS 1 hts gX3_lesser4_X3_place4 rfl rfl rfl (by decide +kernel) ⟨Nat.le_of_ble_eq_true rfl, Nat.le_of_ble_eq_true rfl⟩) rfl hl.1 rfl (Nat.le_of_ble_eq_true rfl) (Nat.zero_le _) (Nat.zero_le _) dX3_lesser4_1 ?_
  refine lv_iload_n hx hb dX3_lesser4_4 rfl (lv_at hl 1 rfl) ?_
  refine cl_Pi (c_X3_place4 l _) ⟨hx, hb, hml, hown, hts⟩ (va_cwS 1 hts gX3_lesser4_X3_place4 rfl rfl rfl (by decide +kernel) ⟨Nat.le_of_ble_eq_true rfl, Nat.le_of_ble_eq_true rfl⟩) rfl hl.1 rfl (Nat.le_of_ble_eq_true rfl) (Nat.zero_le _) (Nat.zero_le _) dX3_lesser4_5 ?_
  refine lv_icmp_gt (tgt := 15) hx hb dX3_lesser4_8 (by decide) (fun c_8 => ?_) (fun c_8 => ?_)
  · refine lv_iload_n hx hb dX3_lesser4_15 rfl (lv_at hl 1 rfl) ?_
    exact rt_Pi hx hb hr hlk (Eq.symm (Eq.trans (if_pos c_8) (rfl))) dX3_lesser4_16
  · refine lv_iload_n hx hb dX3_lesser4_11 rfl (lv_at hl 0 rfl) ?_
    refine lv_goto (tgt := 16) hx hb dX3_lesser4_12 (by decide) ?_
    exact rt_Pi hx hb hr hlk (Eq.symm (Eq.trans (if_neg c_8) (rfl))) dX3_lesser4_16

def f_X3_thin (b : Int32) : Int64 := (Int32.toInt64 b) &&& 4294967295
set_option maxHeartbeats 4000000 in
set_option maxRecDepth 100000 in
theorem c_X3_thin (l : Launch) (b : Int32) : MetPl l yX3_thin wsX3_thin { frames := 0, cells := 0, slots := 0, locals := 0 } [.int b] (f_X3_thin b) := by
  refine en_Pl (cc := cX3_thin) (maxL := 1) (ret := (some .long)) (by decide) rfl (Nat.le_of_ble_eq_true rfl) ?_
  intro p e st m below meth c ls hx hb hr hml hts hown hlk hl
  have hown : st.vm.findClass RX3 = some m.cls := hown
  have hl : lv_has ls 1 [(0, .int b)] := hl
  have k105 := hts (.constantLong RX3 105 (4294967295)) (by decide +kernel)
  refine lv_iload_n hx hb dX3_thin_0 rfl (lv_at hl 0 rfl) ?_
  refine lv_i2l hx hb dX3_thin_1 rfl ?_
  refine lv_ldc2 hx hb hown k105 dX3_thin_2 ?_
  refine lv_land hx hb dX3_thin_5 ?_
  exact rt_Pl hx hb hr hlk (Eq.symm (rfl)) dX3_thin_6

def f_X3_amount4 (b : Int32) : Int32 := b &&& 2147483647
set_option maxHeartbeats 4000000 in
set_option maxRecDepth 100000 in
theorem c_X3_amount4 (l : Launch) (b : Int32) : MetPi l yX3_amount4 wsX3_amount4 { frames := 0, cells := 0, slots := 0, locals := 0 } [.int b] (f_X3_amount4 b) := by
  refine en_Pi (cc := cX3_amount4) (maxL := 1) (ret := (some .int)) (by decide) rfl (Nat.le_of_ble_eq_true rfl) ?_
  intro p e st m below meth c ls hx hb hr hml hts hown hlk hl
  have hown : st.vm.findClass RX3 = some m.cls := hown
  have hl : lv_has ls 1 [(0, .int b)] := hl
  have k96 := hts (.constant RX3 96 (2147483647)) (by decide +kernel)
  refine lv_iload_n hx hb dX3_amount4_0 rfl (lv_at hl 0 rfl) ?_
  refine lv_ldc hx hb hown k96 dX3_amount4_1 ?_
  refine lv_iand hx hb dX3_amount4_3 ?_
  exact rt_Pi hx hb hr hlk (Eq.symm (rfl)) dX3_amount4_4

def f_X3_isThread (t : Int32) : Int32 := if t < 0 then (0) else (if 8 ≤ t then (0) else (1))
set_option maxHeartbeats 4000000 in
set_option maxRecDepth 100000 in
theorem c_X3_isThread (l : Launch) (t : Int32) : MetPi l yX3_isThread wsX3_isThread { frames := 0, cells := 0, slots := 0, locals := 0 } [.int t] (f_X3_isThread t) := by
  refine en_Pi (cc := cX3_isThread) (maxL := 1) (ret := (some .boolean)) (by decide) rfl (Nat.le_of_ble_eq_true rfl) ?_
  intro p e st m below meth c ls hx hb hr hml hts hown hlk hl
  have hown : st.vm.findClass RX3 = some m.cls := hown
  have hl : lv_has ls 1 [(0, .int t)] := hl
  refine lv_iload_n hx hb dX3_isThread_0 rfl (lv_at hl 0 rfl) ?_
  refine lv_if_lt (tgt := 14) hx hb dX3_isThread_1 (by decide) (fun c_1 => ?_) (fun c_1 => ?_)
  · refine lv_iconst (v := 0) hx hb dX3_isThread_14 (by decide) ?_
    exact rt_Pz hx hb hr hlk rfl (Eq.symm (Eq.trans (if_pos c_1) (rfl))) dX3_isThread_15
  · refine lv_iload_n hx hb dX3_isThread_4 rfl (lv_at hl 0 rfl) ?_
    refine lv_bipush (v := 8) hx hb dX3_isThread_5 (by decide) ?_
    refine lv_icmp_ge (tgt := 14) hx hb dX3_isThread_7 (by decide) (fun c_7 => ?_) (fun c_7 => ?_)
    · refine lv_iconst (v := 0) hx hb dX3_isThread_14 (by decide) ?_
      exact rt_Pz hx hb hr hlk rfl (Eq.symm (Eq.trans (if_neg c_1) (Eq.trans (if_pos c_7) (rfl)))) dX3_isThread_15
    · refine lv_iconst (v := 1) hx hb dX3_isThread_10 (by decide) ?_
      refine lv_goto (tgt := 15) hx hb dX3_isThread_11 (by decide) ?_
      exact rt_Pz hx hb hr hlk rfl (Eq.symm (Eq.trans (if_neg c_1) (Eq.trans (if_neg c_7) (rfl)))) dX3_isThread_15

def f_X3_isReal (k : Int32) : Int32 := if k = 0 then (1) else (if k = 1 then (1) else (if k = 4 then (1) else (if k = 5 then (1) else (0))))
set_option maxHeartbeats 4000000 in
set_option maxRecDepth 100000 in
theorem c_X3_isReal (l : Launch) (k : Int32) : MetPi l yX3_isReal wsX3_isReal { frames := 0, cells := 0, slots := 0, locals := 0 } [.int k] (f_X3_isReal k) := by
  refine en_Pi (cc := cX3_isReal) (maxL := 1) (ret := (some .boolean)) (by decide) rfl (Nat.le_of_ble_eq_true rfl) ?_
  intro p e st m below meth c ls hx hb hr hml hts hown hlk hl
  have hown : st.vm.findClass RX3 = some m.cls := hown
  have hl : lv_has ls 1 [(0, .int k)] := hl
  refine lv_iload_n hx hb dX3_isReal_0 rfl (lv_at hl 0 rfl) ?_
  refine lv_if_eq (tgt := 19) hx hb dX3_isReal_1 (by decide) (fun c_1 => ?_) (fun c_1 => ?_)
  · refine lv_iconst (v := 1) hx hb dX3_isReal_19 (by decide) ?_
    refine lv_goto (tgt := 24) hx hb dX3_isReal_20 (by decide) ?_
    exact rt_Pz hx hb hr hlk rfl (Eq.symm (Eq.trans (if_pos c_1) (rfl))) dX3_isReal_24
  · refine lv_iload_n hx hb dX3_isReal_4 rfl (lv_at hl 0 rfl) ?_
    refine lv_iconst (v := 1) hx hb dX3_isReal_5 (by decide) ?_
    refine lv_icmp_eq (tgt := 19) hx hb dX3_isReal_6 (by decide) (fun c_6 => ?_) (fun c_6 => ?_)
    · refine lv_iconst (v := 1) hx hb dX3_isReal_19 (by decide) ?_
      refine lv_goto (tgt := 24) hx hb dX3_isReal_20 (by decide) ?_
      exact rt_Pz hx hb hr hlk rfl (Eq.symm (Eq.trans (if_neg c_1) (Eq.trans (if_pos c_6) (rfl)))) dX3_isReal_24
    · refine lv_iload_n hx hb dX3_isReal_9 rfl (lv_at hl 0 rfl) ?_
      refine lv_iconst (v := 4) hx hb dX3_isReal_10 (by decide) ?_
      refine lv_icmp_eq (tgt := 19) hx hb dX3_isReal_11 (by decide) (fun c_11 => ?_) (fun c_11 => ?_)
      · refine lv_iconst (v := 1) hx hb dX3_isReal_19 (by decide) ?_
        refine lv_goto (tgt := 24) hx hb dX3_isReal_20 (by decide) ?_
        exact rt_Pz hx hb hr hlk rfl (Eq.symm (Eq.trans (if_neg c_1) (Eq.trans (if_neg c_6) (Eq.trans (if_pos c_11) (rfl))))) dX3_isReal_24
      · refine lv_iload_n hx hb dX3_isReal_14 rfl (lv_at hl 0 rfl) ?_
        refine lv_iconst (v := 5) hx hb dX3_isReal_15 (by decide) ?_
        refine lv_icmp_ne (tgt := 23) hx hb dX3_isReal_16 (by decide) (fun c_16 => ?_) (fun c_16 => ?_)
        · refine lv_iconst (v := 0) hx hb dX3_isReal_23 (by decide) ?_
          exact rt_Pz hx hb hr hlk rfl (Eq.symm (Eq.trans (if_neg c_1) (Eq.trans (if_neg c_6) (Eq.trans (if_neg c_11) (Eq.trans (if_neg c_16) (rfl)))))) dX3_isReal_24
        · refine lv_iconst (v := 1) hx hb dX3_isReal_19 (by decide) ?_
          refine lv_goto (tgt := 24) hx hb dX3_isReal_20 (by decide) ?_
          exact rt_Pz hx hb hr hlk rfl (Eq.symm (Eq.trans (if_neg c_1) (Eq.trans (if_neg c_6) (Eq.trans (if_neg c_11) (Eq.trans (if_pos c_16) (rfl)))))) dX3_isReal_24

def f_X3_wantsOther (n : Int32) : Int32 := if n = 1 then (1) else (if n = 2 then (1) else (if n = 7 then (1) else (if n = 9 then (1) else (if n = 11 then (1) else (0)))))
set_option maxHeartbeats 4000000 in
set_option maxRecDepth 100000 in
theorem c_X3_wantsOther (l : Launch) (n : Int32) : MetPi l yX3_wantsOther wsX3_wantsOther { frames := 0, cells := 0, slots := 0, locals := 0 } [.int n] (f_X3_wantsOther n) := by
  refine en_Pi (cc := cX3_wantsOther) (maxL := 1) (ret := (some .boolean)) (by decide) rfl (Nat.le_of_ble_eq_true rfl) ?_
  intro p e st m below meth c ls hx hb hr hml hts hown hlk hl
  have hown : st.vm.findClass RX3 = some m.cls := hown
  have hl : lv_has ls 1 [(0, .int n)] := hl
  refine lv_iload_n hx hb dX3_wantsOther_0 rfl (lv_at hl 0 rfl) ?_
  refine lv_iconst (v := 1) hx hb dX3_wantsOther_1 (by decide) ?_
  refine lv_icmp_eq (tgt := 28) hx hb dX3_wantsOther_2 (by decide) (fun c_2 => ?_) (fun c_2 => ?_)
  · refine lv_iconst (v := 1) hx hb dX3_wantsOther_28 (by decide) ?_
    refine lv_goto (tgt := 33) hx hb dX3_wantsOther_29 (by decide) ?_
    exact rt_Pz hx hb hr hlk rfl (Eq.symm (Eq.trans (if_pos c_2) (rfl))) dX3_wantsOther_33
  · refine lv_iload_n hx hb dX3_wantsOther_5 rfl (lv_at hl 0 rfl) ?_
    refine lv_iconst (v := 2) hx hb dX3_wantsOther_6 (by decide) ?_
    refine lv_icmp_eq (tgt := 28) hx hb dX3_wantsOther_7 (by decide) (fun c_7 => ?_) (fun c_7 => ?_)
    · refine lv_iconst (v := 1) hx hb dX3_wantsOther_28 (by decide) ?_
      refine lv_goto (tgt := 33) hx hb dX3_wantsOther_29 (by decide) ?_
      exact rt_Pz hx hb hr hlk rfl (Eq.symm (Eq.trans (if_neg c_2) (Eq.trans (if_pos c_7) (rfl)))) dX3_wantsOther_33
    · refine lv_iload_n hx hb dX3_wantsOther_10 rfl (lv_at hl 0 rfl) ?_
      refine lv_bipush (v := 7) hx hb dX3_wantsOther_11 (by decide) ?_
      refine lv_icmp_eq (tgt := 28) hx hb dX3_wantsOther_13 (by decide) (fun c_13 => ?_) (fun c_13 => ?_)
      · refine lv_iconst (v := 1) hx hb dX3_wantsOther_28 (by decide) ?_
        refine lv_goto (tgt := 33) hx hb dX3_wantsOther_29 (by decide) ?_
        exact rt_Pz hx hb hr hlk rfl (Eq.symm (Eq.trans (if_neg c_2) (Eq.trans (if_neg c_7) (Eq.trans (if_pos c_13) (rfl))))) dX3_wantsOther_33
      · refine lv_iload_n hx hb dX3_wantsOther_16 rfl (lv_at hl 0 rfl) ?_
        refine lv_bipush (v := 9) hx hb dX3_wantsOther_17 (by decide) ?_
        refine lv_icmp_eq (tgt := 28) hx hb dX3_wantsOther_19 (by decide) (fun c_19 => ?_) (fun c_19 => ?_)
        · refine lv_iconst (v := 1) hx hb dX3_wantsOther_28 (by decide) ?_
          refine lv_goto (tgt := 33) hx hb dX3_wantsOther_29 (by decide) ?_
          exact rt_Pz hx hb hr hlk rfl (Eq.symm (Eq.trans (if_neg c_2) (Eq.trans (if_neg c_7) (Eq.trans (if_neg c_13) (Eq.trans (if_pos c_19) (rfl)))))) dX3_wantsOther_33
        · refine lv_iload_n hx hb dX3_wantsOther_22 rfl (lv_at hl 0 rfl) ?_
          refine lv_bipush (v := 11) hx hb dX3_wantsOther_23 (by decide) ?_
          refine lv_icmp_ne (tgt := 32) hx hb dX3_wantsOther_25 (by decide) (fun c_25 => ?_) (fun c_25 => ?_)
          · refine lv_iconst (v := 0) hx hb dX3_wantsOther_32 (by decide) ?_
            exact rt_Pz hx hb hr hlk rfl (Eq.symm (Eq.trans (if_neg c_2) (Eq.trans (if_neg c_7) (Eq.trans (if_neg c_13) (Eq.trans (if_neg c_19) (Eq.trans (if_neg c_25) (rfl))))))) dX3_wantsOther_33
          · refine lv_iconst (v := 1) hx hb dX3_wantsOther_28 (by decide) ?_
            refine lv_goto (tgt := 33) hx hb dX3_wantsOther_29 (by decide) ?_
            exact rt_Pz hx hb hr hlk rfl (Eq.symm (Eq.trans (if_neg c_2) (Eq.trans (if_neg c_7) (Eq.trans (if_neg c_13) (Eq.trans (if_neg c_19) (Eq.trans (if_pos c_25) (rfl))))))) dX3_wantsOther_33
