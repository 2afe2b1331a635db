def f_X2_refusalOfThread (s : SB) (t : Int32) : Int32 := if t < 0 then (1) else (if t < 8 then (if ((gB_Z s) t.toNatClampNeg) = 0 then (0) else (2)) else (1))
set_option maxHeartbeats 4000000 in
set_option maxRecDepth 100000 in
theorem c_X2_refusalOfThread (l : Launch) (D : va_G) (K : ClassId × ClassId × ClassId) (a : Nat → Nat) (s : SB) (t : Int32)   : MetI l yX2_refusalOfThread wsX2_refusalOfThread { frames := 0, cells := 0, slots := 0, locals := 0 } D vwCl (tyK K) (wB K a) [.ref (a 0), .int t] s (f_X2_refusalOfThread s t) s := by
  intro sz0
  refine en_W (cc := cX2_refusalOfThread) (maxL := 2) (ret := (some .int)) (Qc := fun A => va_Qi (fun (x0 : Int32) (u0 : SB) => x0 = f_X2_refusalOfThread s t ∧ u0 = s) (bs_a D vwCl (tyK K) (wB K a) A) A) (by decide) rfl (Nat.le_of_ble_eq_true rfl) ?_ sz0
  intro p e st m below meth c ls A hx hb hr hml hts hown hlk hA hK hP hD hS hl
  have hown : st.vm.findClass RX2 = some m.cls := hown
  have hl : lv_has ls 2 [(0, .ref (a 0)), (1, .int t)] := hl
  have hinX2 : ∀ w ∈ u_ws RX2 TX2 15, w ∈ wsX2_refusalOfThread := fun w h => List.mem_cons_of_mem _ (List.mem_append_right _ h)
  have k29 := hts (.fieldLink RX2 29 "PuppetBar" "isCut" "[Z") (by decide +kernel)
  refine lv_iload_n hx hb dX2_refusalOfThread_0 rfl (lv_at hl 1 rfl) ?_
  refine lv_if_lt (tgt := 10) hx hb dX2_refusalOfThread_1 (by decide) (fun c_1 => ?_) (fun c_1 => ?_)
  · refine lv_iconst (v := 1) hx hb dX2_refusalOfThread_10 (by decide) ?_
    exact rt_I hx hb hr hlk hK hP hD hS ⟨Eq.symm (Eq.trans (if_pos c_1) (rfl)), rfl⟩ dX2_refusalOfThread_11
  · refine lv_iload_n hx hb dX2_refusalOfThread_4 rfl (lv_at hl 1 rfl) ?_
    refine lv_bipush (v := 8) hx hb dX2_refusalOfThread_5 (by decide) ?_
    refine lv_icmp_lt (tgt := 12) hx hb dX2_refusalOfThread_7 (by decide) (fun c_7 => ?_) (fun c_7 => ?_)
    · refine lv_aload_n hx hb dX2_refusalOfThread_12 rfl (lv_at hl 0 rfl) ?_
      refine va_get (D := D) (ci := 1) (C := RX2) (T := TX2) (N := 15) hx hb hts hinX2 hown hK hP 0 rfl rfl 6 (by decide) k29 (fun _ h9 => h9) rfl dX2_refusalOfThread_13 ?_
      refine lv_iload_n hx hb dX2_refusalOfThread_16 rfl (lv_at hl 1 rfl) ?_
      refine va_zald hx hb hK hP 7 2 rfl rfl (in_of c_1 (ltn c_7) rfl (by decide)) dX2_refusalOfThread_17 ?_
      refine lv_if_eq (tgt := 25) hx hb dX2_refusalOfThread_18 (by decide) (fun c_18 => ?_) (fun c_18 => ?_)
      · refine lv_iconst (v := 0) hx hb dX2_refusalOfThread_25 (by decide) ?_
        exact rt_I hx hb hr hlk hK hP hD hS ⟨Eq.symm (Eq.trans (if_neg c_1) (Eq.trans (if_pos c_7) (Eq.trans (if_pos c_18) (rfl)))), rfl⟩ dX2_refusalOfThread_26
      · refine lv_iconst (v := 2) hx hb dX2_refusalOfThread_21 (by decide) ?_
        refine lv_goto (tgt := 26) hx hb dX2_refusalOfThread_22 (by decide) ?_
        exact rt_I hx hb hr hlk hK hP hD hS ⟨Eq.symm (Eq.trans (if_neg c_1) (Eq.trans (if_pos c_7) (Eq.trans (if_neg c_18) (rfl)))), rfl⟩ dX2_refusalOfThread_26
    · refine lv_iconst (v := 1) hx hb dX2_refusalOfThread_10 (by decide) ?_
      exact rt_I hx hb hr hlk hK hP hD hS ⟨Eq.symm (Eq.trans (if_neg c_1) (Eq.trans (if_neg c_7) (rfl))), rfl⟩ dX2_refusalOfThread_11

def f_X2_refusalOfPart (s : SB) (t : Int32) (k : Int32) : Int32 := if k < 0 then (5) else (if k ≤ 5 then (f_X2_refusalOfThread s t) else (5))
set_option maxHeartbeats 4000000 in
set_option maxRecDepth 100000 in
theorem c_X2_refusalOfPart (l : Launch) (D : va_G) (K : ClassId × ClassId × ClassId) (a : Nat → Nat) (s : SB) (t : Int32) (k : Int32)   : MetI l yX2_refusalOfPart wsX2_refusalOfPart { frames := 1, cells := 0, slots := 0, locals := 21 } D vwCl (tyK K) (wB K a) [.ref (a 0), .int t, .int k] s (f_X2_refusalOfPart s t k) s := by
  intro sz0
  refine en_W (cc := cX2_refusalOfPart) (maxL := 3) (ret := (some .int)) (Qc := fun A => va_Qi (fun (x0 : Int32) (u0 : SB) => x0 = f_X2_refusalOfPart s t k ∧ u0 = s) (bs_a D vwCl (tyK K) (wB K a) A) A) (by decide) rfl (Nat.le_of_ble_eq_true rfl) ?_ sz0
  intro p e st m below meth c ls A hx hb hr hml hts hown hlk hA hK hP hD hS hl
  have hown : st.vm.findClass RX2 = some m.cls := hown
  have hl : lv_has ls 3 [(0, .ref (a 0)), (1, .int t), (2, .int k)] := hl
  refine lv_iload_n hx hb dX2_refusalOfPart_0 rfl (lv_at hl 2 rfl) ?_
  refine lv_if_lt (tgt := 9) hx hb dX2_refusalOfPart_1 (by decide) (fun c_1 => ?_) (fun c_1 => ?_)
  · refine lv_iconst (v := 5) hx hb dX2_refusalOfPart_9 (by decide) ?_
    refine lv_goto (tgt := 18) hx hb dX2_refusalOfPart_10 (by decide) ?_
    exact rt_I hx hb hr hlk hK hP hD hS ⟨Eq.symm (Eq.trans (if_pos c_1) (rfl)), rfl⟩ dX2_refusalOfPart_18
  · refine lv_iload_n hx hb dX2_refusalOfPart_4 rfl (lv_at hl 2 rfl) ?_
    refine lv_iconst (v := 5) hx hb dX2_refusalOfPart_5 (by decide) ?_
    refine lv_icmp_le (tgt := 13) hx hb dX2_refusalOfPart_6 (by decide) (fun c_6 => ?_) (fun c_6 => ?_)
    · refine lv_aload_n hx hb dX2_refusalOfPart_13 rfl (lv_at hl 0 rfl) ?_
      refine lv_iload_n hx hb dX2_refusalOfPart_14 rfl (lv_at hl 1 rfl) ?_
      refine cl_I (c_X2_refusalOfThread l D K a _ _ ) ⟨hx, hb, hml, hown, hts⟩ (cwV 1 hts gX2_refusalOfPart_X2_refusalOfThread rfl rfl rfl (by decide +kernel) ⟨Nat.le_of_ble_eq_true rfl, Nat.le_of_ble_eq_true rfl⟩) hK hP hD hS hA rfl rfl rfl rfl hl.1 rfl (Nat.le_of_ble_eq_true rfl) (Nat.zero_le _) (Nat.zero_le _) dX2_refusalOfPart_15 (fun H locs hP hD hS => ?_)
      exact rt_I hx hb hr hlk hK hP hD hS ⟨Eq.symm (Eq.trans (if_neg c_1) (Eq.trans (if_pos c_6) (rfl))), rfl⟩ dX2_refusalOfPart_18
    · refine lv_iconst (v := 5) hx hb dX2_refusalOfPart_9 (by decide) ?_
      refine lv_goto (tgt := 18) hx hb dX2_refusalOfPart_10 (by decide) ?_
      exact rt_I hx hb hr hlk hK hP hD hS ⟨Eq.symm (Eq.trans (if_neg c_1) (Eq.trans (if_neg c_6) (rfl))), rfl⟩ dX2_refusalOfPart_18

def f_X2_refusalOfSetting (s : SB) (t : Int32) (k : Int32) (b : Int64) : Int32 := let x1 := f_X2_refusalOfPart s t k; if x1 = 0 then (if (f_X2_isNumber k b) = 0 then (6) else (0)) else (x1)
set_option maxHeartbeats 4000000 in
set_option maxRecDepth 100000 in
theorem c_X2_refusalOfSetting (l : Launch) (D : va_G) (K : ClassId × ClassId × ClassId) (a : Nat → Nat) (s : SB) (t : Int32) (k : Int32) (b : Int64)   : MetI l yX2_refusalOfSetting wsX2_refusalOfSetting { frames := 2, cells := 0, slots := 0, locals := 43 } D vwCl (tyK K) (wB K a) [.ref (a 0), .int t, .int k, .long b] s (f_X2_refusalOfSetting s t k b) s := by
  intro sz0
  refine en_W (cc := cX2_refusalOfSetting) (maxL := 6) (ret := (some .int)) (Qc := fun A => va_Qi (fun (x0 : Int32) (u0 : SB) => x0 = f_X2_refusalOfSetting s t k b ∧ u0 = s) (bs_a D vwCl (tyK K) (wB K a) A) A) (by decide) rfl (Nat.le_of_ble_eq_true rfl) ?_ sz0
  intro p e st m below meth c ls A hx hb hr hml hts hown hlk hA hK hP hD hS hl
  have hown : st.vm.findClass RX2 = some m.cls := hown
  have hl : lv_has ls 6 [(0, .ref (a 0)), (1, .int t), (2, .int k), (3, .long b)] := hl
  refine lv_aload_n hx hb dX2_refusalOfSetting_0 rfl (lv_at hl 0 rfl) ?_
  refine lv_iload_n hx hb dX2_refusalOfSetting_1 rfl (lv_at hl 1 rfl) ?_
  refine lv_iload_n hx hb dX2_refusalOfSetting_2 rfl (lv_at hl 2 rfl) ?_
  refine cl_I (c_X2_refusalOfPart l D K a _ _ _ ) ⟨hx, hb, hml, hown, hts⟩ (cwV 2 hts gX2_refusalOfSetting_X2_refusalOfPart rfl rfl rfl (by decide +kernel) ⟨Nat.le_of_ble_eq_true rfl, Nat.le_of_ble_eq_true rfl⟩) hK hP hD hS hA rfl rfl rfl rfl hl.1 rfl (Nat.le_of_ble_eq_true rfl) (Nat.zero_le _) (Nat.zero_le _) dX2_refusalOfSetting_3 (fun H locs hP hD hS => ?_)
  refine tpi (fun x1 ex1 => ?_)
  refine lv_istore (lv' := [(5, .int x1), (0, .ref (a 0)), (1, .int t), (2, .int k), (3, .long b)]) hx hb dX2_refusalOfSetting_6 hl (by decide) rfl (fun ls hl => ?_)
  refine lv_iload hx hb dX2_refusalOfSetting_8 (lv_at hl 0 rfl) ?_
  refine lv_if_eq (tgt := 16) hx hb dX2_refusalOfSetting_10 (by decide) (fun c_10 => ?_) (fun c_10 => ?_)
  · refine lv_iload_n hx hb dX2_refusalOfSetting_16 rfl (lv_at hl 3 rfl) ?_
    refine lv_lload_n hx hb dX2_refusalOfSetting_17 rfl (lv_at hl 4 rfl) ?_
    refine cl_Pi (c_X2_isNumber l _ _) ⟨hx, hb, hml, hown, hts⟩ (va_cwS 2 hts gX2_refusalOfSetting_X2_isNumber rfl rfl rfl (by decide +kernel) ⟨Nat.le_of_ble_eq_true rfl, Nat.le_of_ble_eq_true rfl⟩) rfl hl.1 rfl (Nat.le_of_ble_eq_true rfl) (Nat.zero_le _) (Nat.zero_le _) dX2_refusalOfSetting_18 ?_
    refine lv_if_eq (tgt := 28) hx hb dX2_refusalOfSetting_21 (by decide) (fun c_21 => ?_) (fun c_21 => ?_)
    · refine lv_bipush (v := 6) hx hb dX2_refusalOfSetting_28 (by decide) ?_
      subst ex1
      exact rt_I hx hb hr hlk hK hP hD hS ⟨Eq.symm (Eq.trans (if_pos c_10) (Eq.trans (if_pos c_21) (rfl))), rfl⟩ dX2_refusalOfSetting_30
    · refine lv_iconst (v := 0) hx hb dX2_refusalOfSetting_24 (by decide) ?_
      refine lv_goto (tgt := 30) hx hb dX2_refusalOfSetting_25 (by decide) ?_
      subst ex1
      exact rt_I hx hb hr hlk hK hP hD hS ⟨Eq.symm (Eq.trans (if_pos c_10) (Eq.trans (if_neg c_21) (rfl))), rfl⟩ dX2_refusalOfSetting_30
  · refine lv_iload hx hb dX2_refusalOfSetting_13 (lv_at hl 0 rfl) ?_
    subst ex1
    exact rt_I hx hb hr hlk hK hP hD hS ⟨Eq.symm (Eq.trans (if_neg c_10) (rfl)), rfl⟩ dX2_refusalOfSetting_15

def f_X2_refusalOfStringing (s : SB) (t : Int32) : Int32 := let x1 := f_X2_refusalOfThread s t; if x1 = 2 then (0) else (if x1 = 0 then (7) else (x1))
set_option maxHeartbeats 4000000 in
set_option maxRecDepth 100000 in
theorem c_X2_refusalOfStringing (l : Launch) (D : va_G) (K : ClassId × ClassId × ClassId) (a : Nat → Nat) (s : SB) (t : Int32)   : MetI l yX2_refusalOfStringing wsX2_refusalOfStringing { frames := 1, cells := 0, slots := 0, locals := 21 } D vwCl (tyK K) (wB K a) [.ref (a 0), .int t] s (f_X2_refusalOfStringing s t) s := by
  intro sz0
  refine en_W (cc := cX2_refusalOfStringing) (maxL := 3) (ret := (some .int)) (Qc := fun A => va_Qi (fun (x0 : Int32) (u0 : SB) => x0 = f_X2_refusalOfStringing s t ∧ u0 = s) (bs_a D vwCl (tyK K) (wB K a) A) A) (by decide) rfl (Nat.le_of_ble_eq_true rfl) ?_ sz0
  intro p e st m below meth c ls A hx hb hr hml hts hown hlk hA hK hP hD hS hl
  have hown : st.vm.findClass RX2 = some m.cls := hown
  have hl : lv_has ls 3 [(0, .ref (a 0)), (1, .int t)] := hl
  refine lv_aload_n hx hb dX2_refusalOfStringing_0 rfl (lv_at hl 0 rfl) ?_
  refine lv_iload_n hx hb dX2_refusalOfStringing_1 rfl (lv_at hl 1 rfl) ?_
  refine cl_I (c_X2_refusalOfThread l D K a _ _ ) ⟨hx, hb, hml, hown, hts⟩ (cwV 1 hts gX2_refusalOfStringing_X2_refusalOfThread rfl rfl rfl (by decide +kernel) ⟨Nat.le_of_ble_eq_true rfl, Nat.le_of_ble_eq_true rfl⟩) hK hP hD hS hA rfl rfl rfl rfl hl.1 rfl (Nat.le_of_ble_eq_true rfl) (Nat.zero_le _) (Nat.zero_le _) dX2_refusalOfStringing_2 (fun H locs hP hD hS => ?_)
  refine tpi (fun x1 ex1 => ?_)
  refine lv_istore_n (lv' := [(2, .int x1), (0, .ref (a 0)), (1, .int t)]) hx hb dX2_refusalOfStringing_5 rfl hl (by decide) rfl (fun ls hl => ?_)
  refine lv_iload_n hx hb dX2_refusalOfStringing_6 rfl (lv_at hl 0 rfl) ?_
  refine lv_iconst (v := 2) hx hb dX2_refusalOfStringing_7 (by decide) ?_
  refine lv_icmp_ne (tgt := 13) hx hb dX2_refusalOfStringing_8 (by decide) (fun c_8 => ?_) (fun c_8 => ?_)
  · refine lv_iload_n hx hb dX2_refusalOfStringing_13 rfl (lv_at hl 0 rfl) ?_
    refine lv_if_ne (tgt := 22) hx hb dX2_refusalOfStringing_14 (by decide) (fun c_14 => ?_) (fun c_14 => ?_)
    · refine lv_iload_n hx hb dX2_refusalOfStringing_22 rfl (lv_at hl 0 rfl) ?_
      subst ex1
      exact rt_I hx hb hr hlk hK hP hD hS ⟨Eq.symm (Eq.trans (if_neg c_8) (Eq.trans (if_neg c_14) (rfl))), rfl⟩ dX2_refusalOfStringing_23
    · refine lv_bipush (v := 7) hx hb dX2_refusalOfStringing_17 (by decide) ?_
      refine lv_goto (tgt := 23) hx hb dX2_refusalOfStringing_19 (by decide) ?_
      subst ex1
      exact rt_I hx hb hr hlk hK hP hD hS ⟨Eq.symm (Eq.trans (if_neg c_8) (Eq.trans (if_pos c_14) (rfl))), rfl⟩ dX2_refusalOfStringing_23
  · refine lv_iconst (v := 0) hx hb dX2_refusalOfStringing_11 (by decide) ?_
    subst ex1
    exact rt_I hx hb hr hlk hK hP hD hS ⟨Eq.symm (Eq.trans (if_pos c_8) (rfl)), rfl⟩ dX2_refusalOfStringing_12

def f_X2_refusalOfMove (s : SB) (n : Int32) (t : Int32) (u : Int32) : Int32 := if n < 0 then (5) else (if n ≤ 15 then (let x1 := f_X2_refusalOfThread s t; if x1 = 0 then (if (f_X2_wantsOther n) = 0 then (x1) else (let x2 := f_X2_refusalOfThread s u; if x2 = 0 then (0) else (x2 + 2))) else (x1)) else (5))
set_option maxHeartbeats 4000000 in
set_option maxRecDepth 100000 in
theorem c_X2_refusalOfMove (l : Launch) (D : va_G) (K : ClassId × ClassId × ClassId) (a : Nat → Nat) (s : SB) (n : Int32) (t : Int32) (u : Int32)   : MetI l yX2_refusalOfMove wsX2_refusalOfMove { frames := 1, cells := 0, slots := 0, locals := 21 } D vwCl (tyK K) (wB K a) [.ref (a 0), .int n, .int t, .int u] s (f_X2_refusalOfMove s n t u) s := by
  intro sz0
  refine en_W (cc := cX2_refusalOfMove) (maxL := 6) (ret := (some .int)) (Qc := fun A => va_Qi (fun (x0 : Int32) (u0 : SB) => x0 = f_X2_refusalOfMove s n t u ∧ u0 = s) (bs_a D vwCl (tyK K) (wB K a) A) A) (by decide) rfl (Nat.le_of_ble_eq_true rfl) ?_ sz0
  intro p e st m below meth c ls A hx hb hr hml hts hown hlk hA hK hP hD hS hl
  have hown : st.vm.findClass RX2 = some m.cls := hown
  have hl : lv_has ls 6 [(0, .ref (a 0)), (1, .int n), (2, .int t), (3, .int u)] := hl
  refine lv_iload_n hx hb dX2_refusalOfMove_0 rfl (lv_at hl 1 rfl) ?_
  refine lv_if_lt (tgt := 10) hx hb dX2_refusalOfMove_1 (by decide) (fun c_1 => ?_) (fun c_1 => ?_)
  · refine lv_iconst (v := 5) hx hb dX2_refusalOfMove_10 (by decide) ?_
    exact rt_I hx hb hr hlk hK hP hD hS ⟨Eq.symm (Eq.trans (if_pos c_1) (rfl)), rfl⟩ dX2_refusalOfMove_11
  · refine lv_iload_n hx hb dX2_refusalOfMove_4 rfl (lv_at hl 1 rfl) ?_
    refine lv_bipush (v := 15) hx hb dX2_refusalOfMove_5 (by decide) ?_
    refine lv_icmp_le (tgt := 12) hx hb dX2_refusalOfMove_7 (by decide) (fun c_7 => ?_) (fun c_7 => ?_)
    · refine lv_aload_n hx hb dX2_refusalOfMove_12 rfl (lv_at hl 0 rfl) ?_
      refine lv_iload_n hx hb dX2_refusalOfMove_13 rfl (lv_at hl 2 rfl) ?_
      refine cl_I (c_X2_refusalOfThread l D K a _ _ ) ⟨hx, hb, hml, hown, hts⟩ (cwV 1 hts gX2_refusalOfMove_X2_refusalOfThread rfl rfl rfl (by decide +kernel) ⟨Nat.le_of_ble_eq_true rfl, Nat.le_of_ble_eq_true rfl⟩) hK hP hD hS hA rfl rfl rfl rfl hl.1 rfl (Nat.le_of_ble_eq_true rfl) (Nat.zero_le _) (Nat.zero_le _) dX2_refusalOfMove_14 (fun H locs hP hD hS => ?_)
      refine tpi (fun x1 ex1 => ?_)
      refine lv_istore (lv' := [(4, .int x1), (0, .ref (a 0)), (1, .int n), (2, .int t), (3, .int u)]) hx hb dX2_refusalOfMove_17 hl (by decide) rfl (fun ls hl => ?_)
      refine lv_iload hx hb dX2_refusalOfMove_19 (lv_at hl 0 rfl) ?_
      refine lv_if_ne (tgt := 31) hx hb dX2_refusalOfMove_21 (by decide) (fun c_21 => ?_) (fun c_21 => ?_)
      · refine lv_iload hx hb dX2_refusalOfMove_31 (lv_at hl 0 rfl) ?_
        subst ex1
        exact rt_I hx hb hr hlk hK hP hD hS ⟨Eq.symm (Eq.trans (if_neg c_1) (Eq.trans (if_pos c_7) (Eq.trans (if_neg c_21) (rfl)))), rfl⟩ dX2_refusalOfMove_33
      · refine lv_iload_n hx hb dX2_refusalOfMove_24 rfl (lv_at hl 2 rfl) ?_
        refine cl_Pi (c_X2_wantsOther l _) ⟨hx, hb, hml, hown, hts⟩ (va_cwS 1 hts gX2_refusalOfMove_X2_wantsOther rfl rfl rfl (by decide +kernel) ⟨Nat.le_of_ble_eq_true rfl, Nat.le_of_ble_eq_true rfl⟩) rfl hl.1 rfl (Nat.le_of_ble_eq_true rfl) (Nat.zero_le _) (Nat.zero_le _) dX2_refusalOfMove_25 ?_
        refine lv_if_ne (tgt := 34) hx hb dX2_refusalOfMove_28 (by decide) (fun c_28 => ?_) (fun c_28 => ?_)
        · refine lv_aload_n hx hb dX2_refusalOfMove_34 rfl (lv_at hl 1 rfl) ?_
          refine lv_iload_n hx hb dX2_refusalOfMove_35 rfl (lv_at hl 4 rfl) ?_
          refine cl_I (c_X2_refusalOfThread l D K a _ _ ) ⟨hx, hb, hml, hown, hts⟩ (cwV 1 hts gX2_refusalOfMove_X2_refusalOfThread rfl rfl rfl (by decide +kernel) ⟨Nat.le_of_ble_eq_true rfl, Nat.le_of_ble_eq_true rfl⟩) hK hP hD hS hA rfl rfl rfl rfl hl.1 rfl (Nat.le_of_ble_eq_true rfl) (Nat.zero_le _) (Nat.zero_le _) dX2_refusalOfMove_36 (fun H locs hP hD hS => ?_)
          refine tpi (fun x2 ex2 => ?_)
          refine lv_istore (lv' := [(5, .int x2), (4, .int x1), (0, .ref (a 0)), (1, .int n), (2, .int t), (3, .int u)]) hx hb dX2_refusalOfMove_39 hl (by decide) rfl (fun ls hl => ?_)
          refine lv_iload hx hb dX2_refusalOfMove_41 (lv_at hl 0 rfl) ?_
          refine lv_if_ne (tgt := 50) hx hb dX2_refusalOfMove_43 (by decide) (fun c_43 => ?_) (fun c_43 => ?_)
          · refine lv_iload hx hb dX2_refusalOfMove_50 (lv_at hl 0 rfl) ?_
            refine lv_iconst (v := 2) hx hb dX2_refusalOfMove_52 (by decide) ?_
            refine lv_iadd hx hb dX2_refusalOfMove_53 ?_
            subst ex2 ex1
            exact rt_I hx hb hr hlk hK hP hD hS ⟨Eq.symm (Eq.trans (if_neg c_1) (Eq.trans (if_pos c_7) (Eq.trans (if_pos c_21) (Eq.trans (if_neg c_28) (Eq.trans (if_neg c_43) (rfl)))))), rfl⟩ dX2_refusalOfMove_54
          · refine lv_iconst (v := 0) hx hb dX2_refusalOfMove_46 (by decide) ?_
            refine lv_goto (tgt := 54) hx hb dX2_refusalOfMove_47 (by decide) ?_
            subst ex2 ex1
            exact rt_I hx hb hr hlk hK hP hD hS ⟨Eq.symm (Eq.trans (if_neg c_1) (Eq.trans (if_pos c_7) (Eq.trans (if_pos c_21) (Eq.trans (if_neg c_28) (Eq.trans (if_pos c_43) (rfl)))))), rfl⟩ dX2_refusalOfMove_54
        · refine lv_iload hx hb dX2_refusalOfMove_31 (lv_at hl 0 rfl) ?_
          subst ex1
          exact rt_I hx hb hr hlk hK hP hD hS ⟨Eq.symm (Eq.trans (if_neg c_1) (Eq.trans (if_pos c_7) (Eq.trans (if_pos c_21) (Eq.trans (if_pos c_28) (rfl))))), rfl⟩ dX2_refusalOfMove_33
    · refine lv_iconst (v := 5) hx hb dX2_refusalOfMove_10 (by decide) ?_
      exact rt_I hx hb hr hlk hK hP hD hS ⟨Eq.symm (Eq.trans (if_neg c_1) (Eq.trans (if_neg c_7) (rfl))), rfl⟩ dX2_refusalOfMove_11

def f_X2_stringAnew (s : SB) (t : Int32) : SB := pB_HI (pB_LO (pB_T (pB_K (pB_P (pB_L (pB_Z s (upd (gB_Z s) t.toNatClampNeg (vp_nar .boolean 0))) (vp_updL (gB_L s) t.toNatClampNeg 0)) (upd (gB_P s) t.toNatClampNeg 0)) (upd (gB_K s) t.toNatClampNeg 0)) (vp_updL (gB_T s) t.toNatClampNeg 0)) (vp_updL (gB_LO s) t.toNatClampNeg (-4503599627370496))) (vp_updL (gB_HI s) t.toNatClampNeg 9218868437227405312)
set_option maxHeartbeats 4000000 in
set_option maxRecDepth 100000 in
theorem c_X2_stringAnew (l : Launch) (D : va_G) (K : ClassId × ClassId × ClassId) (a : Nat → Nat) (s : SB) (t : Int32) (h_t : vp_in t 8)  : MetV l yX2_stringAnew wsX2_stringAnew { frames := 0, cells := 0, slots := 0, locals := 0 } D vwCl (tyK K) (wB K a) [.ref (a 0), .int t] s (f_X2_stringAnew s t) := by
  intro sz0
  refine en_W (cc := cX2_stringAnew) (maxL := 2) (ret := none) (Qc := fun A => va_Qv (fun u0 : SB => u0 = f_X2_stringAnew s t) (bs_a D vwCl (tyK K) (wB K a) A) A) (by decide) rfl (Nat.le_of_ble_eq_true rfl) ?_ sz0
  intro p e st m below meth c ls A hx hb hr hml hts hown hlk hA hK hP hD hS hl
  have hown : st.vm.findClass RX2 = some m.cls := hown
  have hl : lv_has ls 2 [(0, .ref (a 0)), (1, .int t)] := hl
  have hinX2 : ∀ w ∈ u_ws RX2 TX2 15, w ∈ wsX2_stringAnew := fun w h => List.mem_cons_of_mem _ (List.mem_append_right _ h)
  have k29 := hts (.fieldLink RX2 29 "PuppetBar" "isCut" "[Z") (by decide +kernel)
  have k9 := hts (.fieldLink RX2 9 "PuppetBar" "lengths" "[J") (by decide +kernel)
  have k13 := hts (.fieldLink RX2 13 "PuppetBar" "pulls" "[I") (by decide +kernel)
  have k17 := hts (.fieldLink RX2 17 "PuppetBar" "knots" "[I") (by decide +kernel)
  have k20 := hts (.fieldLink RX2 20 "PuppetBar" "twists" "[J") (by decide +kernel)
  have k23 := hts (.fieldLink RX2 23 "PuppetBar" "lows" "[J") (by decide +kernel)
  have k143 := hts (.constantLong RX2 143 (-4503599627370496)) (by decide +kernel)
  have k26 := hts (.fieldLink RX2 26 "PuppetBar" "highs" "[J") (by decide +kernel)
  have k133 := hts (.constantLong RX2 133 (9218868437227405312)) (by decide +kernel)
  refine lv_aload_n hx hb dX2_stringAnew_0 rfl (lv_at hl 0 rfl) ?_
  refine va_get (D := D) (ci := 1) (C := RX2) (T := TX2) (N := 15) hx hb hts hinX2 hown hK hP 0 rfl rfl 6 (by decide) k29 (fun _ h9 => h9) rfl dX2_stringAnew_1 ?_
  refine lv_iload_n hx hb dX2_stringAnew_4 rfl (lv_at hl 1 rfl) ?_
  refine lv_iconst (v := 0) hx hb dX2_stringAnew_5 (by decide) ?_
  refine va_zast hx hb hK hP hD hS 7 2 rfl rfl h_t dX2_stringAnew_6 (fun H locs hP hD hS => ?_)
  have hP : va_P D vwCl (wB K a (pB_Z s (upd (gB_Z s) t.toNatClampNeg (vp_nar .boolean 0)))) H := hP
  have hD : va_D A (wB K a (pB_Z s (upd (gB_Z s) t.toNatClampNeg (vp_nar .boolean 0)))) := hD
  refine lv_aload_n hx hb dX2_stringAnew_7 rfl (lv_at hl 0 rfl) ?_
  refine va_get (D := D) (ci := 1) (C := RX2) (T := TX2) (N := 15) hx hb hts hinX2 hown hK hP 0 rfl rfl 0 (by decide) k9 (fun _ h9 => h9) rfl dX2_stringAnew_8 ?_
  refine lv_iload_n hx hb dX2_stringAnew_11 rfl (lv_at hl 1 rfl) ?_
  refine lv_lconst (v := 0) hx hb dX2_stringAnew_12 (by decide) ?_
  refine va_last hx hb hK hP hD hS 1 1 rfl rfl h_t dX2_stringAnew_13 (fun H locs hP hD hS => ?_)
  have hP : va_P D vwCl (wB K a (pB_L (pB_Z s (upd (gB_Z s) t.toNatClampNeg (vp_nar .boolean 0))) (vp_updL (gB_L s) t.toNatClampNeg 0))) H := hP
  have hD : va_D A (wB K a (pB_L (pB_Z s (upd (gB_Z s) t.toNatClampNeg (vp_nar .boolean 0))) (vp_updL (gB_L s) t.toNatClampNeg 0))) := hD
  refine lv_aload_n hx hb dX2_stringAnew_14 rfl (lv_at hl 0 rfl) ?_
  refine va_get (D := D) (ci := 1) (C := RX2) (T := TX2) (N := 15) hx hb hts hinX2 hown hK hP 0 rfl rfl 1 (by decide) k13 (fun _ h9 => h9) rfl dX2_stringAnew_15 ?_
  refine lv_iload_n hx hb dX2_stringAnew_18 rfl (lv_at hl 1 rfl) ?_
  refine lv_iconst (v := 0) hx hb dX2_stringAnew_19 (by decide) ?_
  refine va_iast hx hb hK hP hD hS 2 0 rfl rfl h_t dX2_stringAnew_20 (fun H locs hP hD hS => ?_)
  have hP : va_P D vwCl (wB K a (pB_P (pB_L (pB_Z s (upd (gB_Z s) t.toNatClampNeg (vp_nar .boolean 0))) (vp_updL (gB_L s) t.toNatClampNeg 0)) (upd (gB_P s) t.toNatClampNeg 0))) H := hP
  have hD : va_D A (wB K a (pB_P (pB_L (pB_Z s (upd (gB_Z s) t.toNatClampNeg (vp_nar .boolean 0))) (vp_updL (gB_L s) t.toNatClampNeg 0)) (upd (gB_P s) t.toNatClampNeg 0))) := hD
  refine lv_aload_n hx hb dX2_stringAnew_21 rfl (lv_at hl 0 rfl) ?_
  refine va_get (D := D) (ci := 1) (C := RX2) (T := TX2) (N := 15) hx hb hts hinX2 hown hK hP 0 rfl rfl 2 (by decide) k17 (fun _ h9 => h9) rfl dX2_stringAnew_22 ?_
  refine lv_iload_n hx hb dX2_stringAnew_25 rfl (lv_at hl 1 rfl) ?_
  refine lv_iconst (v := 0) hx hb dX2_stringAnew_26 (by decide) ?_
  refine va_iast hx hb hK hP hD hS 3 0 rfl rfl h_t dX2_stringAnew_27 (fun H locs hP hD hS => ?_)
  have hP : va_P D vwCl (wB K a (pB_K (pB_P (pB_L (pB_Z s (upd (gB_Z s) t.toNatClampNeg (vp_nar .boolean 0))) (vp_updL (gB_L s) t.toNatClampNeg 0)) (upd (gB_P s) t.toNatClampNeg 0)) (upd (gB_K s) t.toNatClampNeg 0))) H := hP
  have hD : va_D A (wB K a (pB_K (pB_P (pB_L (pB_Z s (upd (gB_Z s) t.toNatClampNeg (vp_nar .boolean 0))) (vp_updL (gB_L s) t.toNatClampNeg 0)) (upd (gB_P s) t.toNatClampNeg 0)) (upd (gB_K s) t.toNatClampNeg 0))) := hD
  refine lv_aload_n hx hb dX2_stringAnew_28 rfl (lv_at hl 0 rfl) ?_
  refine va_get (D := D) (ci := 1) (C := RX2) (T := TX2) (N := 15) hx hb hts hinX2 hown hK hP 0 rfl rfl 3 (by decide) k20 (fun _ h9 => h9) rfl dX2_stringAnew_29 ?_
  refine lv_iload_n hx hb dX2_stringAnew_32 rfl (lv_at hl 1 rfl) ?_
  refine lv_lconst (v := 0) hx hb dX2_stringAnew_33 (by decide) ?_
  refine va_last hx hb hK hP hD hS 4 1 rfl rfl h_t dX2_stringAnew_34 (fun H locs hP hD hS => ?_)
  have hP : va_P D vwCl (wB K a (pB_T (pB_K (pB_P (pB_L (pB_Z s (upd (gB_Z s) t.toNatClampNeg (vp_nar .boolean 0))) (vp_updL (gB_L s) t.toNatClampNeg 0)) (upd (gB_P s) t.toNatClampNeg 0)) (upd (gB_K s) t.toNatClampNeg 0)) (vp_updL (gB_T s) t.toNatClampNeg 0))) H := hP
  have hD : va_D A (wB K a (pB_T (pB_K (pB_P (pB_L (pB_Z s (upd (gB_Z s) t.toNatClampNeg (vp_nar .boolean 0))) (vp_updL (gB_L s) t.toNatClampNeg 0)) (upd (gB_P s) t.toNatClampNeg 0)) (upd (gB_K s) t.toNatClampNeg 0)) (vp_updL (gB_T s) t.toNatClampNeg 0))) := hD
  refine lv_aload_n hx hb dX2_stringAnew_35 rfl (lv_at hl 0 rfl) ?_
  refine va_get (D := D) (ci := 1) (C := RX2) (T := TX2) (N := 15) hx hb hts hinX2 hown hK hP 0 rfl rfl 4 (by decide) k23 (fun _ h9 => h9) rfl dX2_stringAnew_36 ?_
  refine lv_iload_n hx hb dX2_stringAnew_39 rfl (lv_at hl 1 rfl) ?_
  refine lv_ldc2 hx hb hown k143 dX2_stringAnew_40 ?_
  refine va_last hx hb hK hP hD hS 5 1 rfl rfl h_t dX2_stringAnew_43 (fun H locs hP hD hS => ?_)
  have hP : va_P D vwCl (wB K a (pB_LO (pB_T (pB_K (pB_P (pB_L (pB_Z s (upd (gB_Z s) t.toNatClampNeg (vp_nar .boolean 0))) (vp_updL (gB_L s) t.toNatClampNeg 0)) (upd (gB_P s) t.toNatClampNeg 0)) (upd (gB_K s) t.toNatClampNeg 0)) (vp_updL (gB_T s) t.toNatClampNeg 0)) (vp_updL (gB_LO s) t.toNatClampNeg (-4503599627370496)))) H := hP
  have hD : va_D A (wB K a (pB_LO (pB_T (pB_K (pB_P (pB_L (pB_Z s (upd (gB_Z s) t.toNatClampNeg (vp_nar .boolean 0))) (vp_updL (gB_L s) t.toNatClampNeg 0)) (upd (gB_P s) t.toNatClampNeg 0)) (upd (gB_K s) t.toNatClampNeg 0)) (vp_updL (gB_T s) t.toNatClampNeg 0)) (vp_updL (gB_LO s) t.toNatClampNeg (-4503599627370496)))) := hD
  refine lv_aload_n hx hb dX2_stringAnew_44 rfl (lv_at hl 0 rfl) ?_
  refine va_get (D := D) (ci := 1) (C := RX2) (T := TX2) (N := 15) hx hb hts hinX2 hown hK hP 0 rfl rfl 5 (by decide) k26 (fun _ h9 => h9) rfl dX2_stringAnew_45 ?_
  refine lv_iload_n hx hb dX2_stringAnew_48 rfl (lv_at hl 1 rfl) ?_
  refine lv_ldc2 hx hb hown k133 dX2_stringAnew_49 ?_
  refine va_last hx hb hK hP hD hS 6 1 rfl rfl h_t dX2_stringAnew_52 (fun H locs hP hD hS => ?_)
  have hP : va_P D vwCl (wB K a (pB_HI (pB_LO (pB_T (pB_K (pB_P (pB_L (pB_Z s (upd (gB_Z s) t.toNatClampNeg (vp_nar .boolean 0))) (vp_updL (gB_L s) t.toNatClampNeg 0)) (upd (gB_P s) t.toNatClampNeg 0)) (upd (gB_K s) t.toNatClampNeg 0)) (vp_updL (gB_T s) t.toNatClampNeg 0)) (vp_updL (gB_LO s) t.toNatClampNeg (-4503599627370496))) (vp_updL (gB_HI s) t.toNatClampNeg 9218868437227405312))) H := hP
  have hD : va_D A (wB K a (pB_HI (pB_LO (pB_T (pB_K (pB_P (pB_L (pB_Z s (upd (gB_Z s) t.toNatClampNeg (vp_nar .boolean 0))) (vp_updL (gB_L s) t.toNatClampNeg 0)) (upd (gB_P s) t.toNatClampNeg 0)) (upd (gB_K s) t.toNatClampNeg 0)) (vp_updL (gB_T s) t.toNatClampNeg 0)) (vp_updL (gB_LO s) t.toNatClampNeg (-4503599627370496))) (vp_updL (gB_HI s) t.toNatClampNeg 9218868437227405312))) := hD
  exact rt_V (s1 := _) hx hb hr hlk hK hP hD hS (Eq.symm (rfl)) dX2_stringAnew_53

def f_X2_write (s : SB) (t : Int32) (k : Int32) (b : Int64) : SB := if k = 0 then (pB_L s (vp_updL (gB_L s) t.toNatClampNeg b)) else (if k = 1 then (pB_P s (upd (gB_P s) t.toNatClampNeg (Int64.toInt32 b))) else (if k = 2 then (pB_K s (upd (gB_K s) t.toNatClampNeg (Int64.toInt32 b))) else (if k = 3 then (pB_T s (vp_updL (gB_T s) t.toNatClampNeg b)) else (if k = 4 then (pB_LO s (vp_updL (gB_LO s) t.toNatClampNeg b)) else (if k = 5 then (pB_HI s (vp_updL (gB_HI s) t.toNatClampNeg b)) else (s))))))
set_option maxHeartbeats 4000000 in
set_option maxRecDepth 100000 in
theorem c_X2_write (l : Launch) (D : va_G) (K : ClassId × ClassId × ClassId) (a : Nat → Nat) (s : SB) (t : Int32) (k : Int32) (b : Int64) (h_t : vp_in t 8)  : MetV l yX2_write wsX2_write { frames := 0, cells := 0, slots := 0, locals := 0 } D vwCl (tyK K) (wB K a) [.ref (a 0), .int t, .int k, .long b] s (f_X2_write s t k b) := by
  intro sz0
  refine en_W (cc := cX2_write) (maxL := 5) (ret := none) (Qc := fun A => va_Qv (fun u0 : SB => u0 = f_X2_write s t k b) (bs_a D vwCl (tyK K) (wB K a) A) A) (by decide) rfl (Nat.le_of_ble_eq_true rfl) ?_ sz0
  intro p e st m below meth c ls A hx hb hr hml hts hown hlk hA hK hP hD hS hl
  have hown : st.vm.findClass RX2 = some m.cls := hown
  have hl : lv_has ls 5 [(0, .ref (a 0)), (1, .int t), (2, .int k), (3, .long b)] := hl
  have hinX2 : ∀ w ∈ u_ws RX2 TX2 15, w ∈ wsX2_write := fun w h => List.mem_cons_of_mem _ (List.mem_append_right _ h)
  have k9 := hts (.fieldLink RX2 9 "PuppetBar" "lengths" "[J") (by decide +kernel)
  have k13 := hts (.fieldLink RX2 13 "PuppetBar" "pulls" "[I") (by decide +kernel)
  have k17 := hts (.fieldLink RX2 17 "PuppetBar" "knots" "[I") (by decide +kernel)
  have k20 := hts (.fieldLink RX2 20 "PuppetBar" "twists" "[J") (by decide +kernel)
  have k23 := hts (.fieldLink RX2 23 "PuppetBar" "lows" "[J") (by decide +kernel)
  have k26 := hts (.fieldLink RX2 26 "PuppetBar" "highs" "[J") (by decide +kernel)
  refine lv_iload_n hx hb dX2_write_0 rfl (lv_at hl 2 rfl) ?_
  by_cases c_1_0 : k = 0
  · refine lv_tableIn (tgt := 40) (off := 39) hx hb dX2_write_1 (by rw [c_1_0]; decide) (by rw [c_1_0]; decide) (by rw [c_1_0]; rfl) (by decide) ?_
    refine lv_aload_n hx hb dX2_write_40 rfl (lv_at hl 0 rfl) ?_
    refine va_get (D := D) (ci := 1) (C := RX2) (T := TX2) (N := 15) hx hb hts hinX2 hown hK hP 0 rfl rfl 0 (by decide) k9 (fun _ h9 => h9) rfl dX2_write_41 ?_
    refine lv_iload_n hx hb dX2_write_44 rfl (lv_at hl 1 rfl) ?_
    refine lv_lload_n hx hb dX2_write_45 rfl (lv_at hl 3 rfl) ?_
    refine va_last hx hb hK hP hD hS 1 1 rfl rfl h_t dX2_write_46 (fun H locs hP hD hS => ?_)
    have hP : va_P D vwCl (wB K a (pB_L s (vp_updL (gB_L s) t.toNatClampNeg b))) H := hP
    have hD : va_D A (wB K a (pB_L s (vp_updL (gB_L s) t.toNatClampNeg b))) := hD
    refine lv_goto (tgt := 102) hx hb dX2_write_47 (by decide) ?_
    exact rt_V (s1 := _) hx hb hr hlk hK hP hD hS (Eq.symm (Eq.trans (if_pos c_1_0) (rfl))) dX2_write_102
  by_cases c_1_1 : k = 1
  · refine lv_tableIn (tgt := 50) (off := 49) hx hb dX2_write_1 (by rw [c_1_1]; decide) (by rw [c_1_1]; decide) (by rw [c_1_1]; rfl) (by decide) ?_
    refine lv_aload_n hx hb dX2_write_50 rfl (lv_at hl 0 rfl) ?_
    refine va_get (D := D) (ci := 1) (C := RX2) (T := TX2) (N := 15) hx hb hts hinX2 hown hK hP 0 rfl rfl 1 (by decide) k13 (fun _ h9 => h9) rfl dX2_write_51 ?_
    refine lv_iload_n hx hb dX2_write_54 rfl (lv_at hl 1 rfl) ?_
    refine lv_lload_n hx hb dX2_write_55 rfl (lv_at hl 3 rfl) ?_
    refine lv_l2i hx hb dX2_write_56 rfl ?_
    refine va_iast hx hb hK hP hD hS 2 0 rfl rfl h_t dX2_write_57 (fun H locs hP hD hS => ?_)
    have hP : va_P D vwCl (wB K a (pB_P s (upd (gB_P s) t.toNatClampNeg (Int64.toInt32 b)))) H := hP
    have hD : va_D A (wB K a (pB_P s (upd (gB_P s) t.toNatClampNeg (Int64.toInt32 b)))) := hD
    refine lv_goto (tgt := 102) hx hb dX2_write_58 (by decide) ?_
    exact rt_V (s1 := _) hx hb hr hlk hK hP hD hS (Eq.symm (Eq.trans (if_neg c_1_0) (Eq.trans (if_pos c_1_1) (rfl)))) dX2_write_102
  by_cases c_1_2 : k = 2
  · refine lv_tableIn (tgt := 61) (off := 60) hx hb dX2_write_1 (by rw [c_1_2]; decide) (by rw [c_1_2]; decide) (by rw [c_1_2]; rfl) (by decide) ?_
    refine lv_aload_n hx hb dX2_write_61 rfl (lv_at hl 0 rfl) ?_
    refine va_get (D := D) (ci := 1) (C := RX2) (T := TX2) (N := 15) hx hb hts hinX2 hown hK hP 0 rfl rfl 2 (by decide) k17 (fun _ h9 => h9) rfl dX2_write_62 ?_
    refine lv_iload_n hx hb dX2_write_65 rfl (lv_at hl 1 rfl) ?_
    refine lv_lload_n hx hb dX2_write_66 rfl (lv_at hl 3 rfl) ?_
    refine lv_l2i hx hb dX2_write_67 rfl ?_
    refine va_iast hx hb hK hP hD hS 3 0 rfl rfl h_t dX2_write_68 (fun H locs hP hD hS => ?_)
    have hP : va_P D vwCl (wB K a (pB_K s (upd (gB_K s) t.toNatClampNeg (Int64.toInt32 b)))) H := hP
    have hD : va_D A (wB K a (pB_K s (upd (gB_K s) t.toNatClampNeg (Int64.toInt32 b)))) := hD
    refine lv_goto (tgt := 102) hx hb dX2_write_69 (by decide) ?_
    exact rt_V (s1 := _) hx hb hr hlk hK hP hD hS (Eq.symm (Eq.trans (if_neg c_1_0) (Eq.trans (if_neg c_1_1) (Eq.trans (if_pos c_1_2) (rfl))))) dX2_write_102
  by_cases c_1_3 : k = 3
  · refine lv_tableIn (tgt := 72) (off := 71) hx hb dX2_write_1 (by rw [c_1_3]; decide) (by rw [c_1_3]; decide) (by rw [c_1_3]; rfl) (by decide) ?_
    refine lv_aload_n hx hb dX2_write_72 rfl (lv_at hl 0 rfl) ?_
    refine va_get (D := D) (ci := 1) (C := RX2) (T := TX2) (N := 15) hx hb hts hinX2 hown hK hP 0 rfl rfl 3 (by decide) k20 (fun _ h9 => h9) rfl dX2_write_73 ?_
    refine lv_iload_n hx hb dX2_write_76 rfl (lv_at hl 1 rfl) ?_
    refine lv_lload_n hx hb dX2_write_77 rfl (lv_at hl 3 rfl) ?_
    refine va_last hx hb hK hP hD hS 4 1 rfl rfl h_t dX2_write_78 (fun H locs hP hD hS => ?_)
    have hP : va_P D vwCl (wB K a (pB_T s (vp_updL (gB_T s) t.toNatClampNeg b))) H := hP
    have hD : va_D A (wB K a (pB_T s (vp_updL (gB_T s) t.toNatClampNeg b))) := hD
    refine lv_goto (tgt := 102) hx hb dX2_write_79 (by decide) ?_
    exact rt_V (s1 := _) hx hb hr hlk hK hP hD hS (Eq.symm (Eq.trans (if_neg c_1_0) (Eq.trans (if_neg c_1_1) (Eq.trans (if_neg c_1_2) (Eq.trans (if_pos c_1_3) (rfl)))))) dX2_write_102
  by_cases c_1_4 : k = 4
  · refine lv_tableIn (tgt := 82) (off := 81) hx hb dX2_write_1 (by rw [c_1_4]; decide) (by rw [c_1_4]; decide) (by rw [c_1_4]; rfl) (by decide) ?_
    refine lv_aload_n hx hb dX2_write_82 rfl (lv_at hl 0 rfl) ?_
    refine va_get (D := D) (ci := 1) (C := RX2) (T := TX2) (N := 15) hx hb hts hinX2 hown hK hP 0 rfl rfl 4 (by decide) k23 (fun _ h9 => h9) rfl dX2_write_83 ?_
    refine lv_iload_n hx hb dX2_write_86 rfl (lv_at hl 1 rfl) ?_
    refine lv_lload_n hx hb dX2_write_87 rfl (lv_at hl 3 rfl) ?_
    refine va_last hx hb hK hP hD hS 5 1 rfl rfl h_t dX2_write_88 (fun H locs hP hD hS => ?_)
    have hP : va_P D vwCl (wB K a (pB_LO s (vp_updL (gB_LO s) t.toNatClampNeg b))) H := hP
    have hD : va_D A (wB K a (pB_LO s (vp_updL (gB_LO s) t.toNatClampNeg b))) := hD
    refine lv_goto (tgt := 102) hx hb dX2_write_89 (by decide) ?_
    exact rt_V (s1 := _) hx hb hr hlk hK hP hD hS (Eq.symm (Eq.trans (if_neg c_1_0) (Eq.trans (if_neg c_1_1) (Eq.trans (if_neg c_1_2) (Eq.trans (if_neg c_1_3) (Eq.trans (if_pos c_1_4) (rfl))))))) dX2_write_102
  by_cases c_1_5 : k = 5
  · refine lv_tableIn (tgt := 92) (off := 91) hx hb dX2_write_1 (by rw [c_1_5]; decide) (by rw [c_1_5]; decide) (by rw [c_1_5]; rfl) (by decide) ?_
    refine lv_aload_n hx hb dX2_write_92 rfl (lv_at hl 0 rfl) ?_
    refine va_get (D := D) (ci := 1) (C := RX2) (T := TX2) (N := 15) hx hb hts hinX2 hown hK hP 0 rfl rfl 5 (by decide) k26 (fun _ h9 => h9) rfl dX2_write_93 ?_
    refine lv_iload_n hx hb dX2_write_96 rfl (lv_at hl 1 rfl) ?_
    refine lv_lload_n hx hb dX2_write_97 rfl (lv_at hl 3 rfl) ?_
    refine va_last hx hb hK hP hD hS 6 1 rfl rfl h_t dX2_write_98 (fun H locs hP hD hS => ?_)
    have hP : va_P D vwCl (wB K a (pB_HI s (vp_updL (gB_HI s) t.toNatClampNeg b))) H := hP
    have hD : va_D A (wB K a (pB_HI s (vp_updL (gB_HI s) t.toNatClampNeg b))) := hD
    refine lv_goto (tgt := 102) hx hb dX2_write_99 (by decide) ?_
    exact rt_V (s1 := _) hx hb hr hlk hK hP hD hS (Eq.symm (Eq.trans (if_neg c_1_0) (Eq.trans (if_neg c_1_1) (Eq.trans (if_neg c_1_2) (Eq.trans (if_neg c_1_3) (Eq.trans (if_neg c_1_4) (Eq.trans (if_pos c_1_5) (rfl)))))))) dX2_write_102
  have n_1_0 := sw_i c_1_0 (k := 0) (by decide)
  have n_1_1 := sw_i c_1_1 (k := 1) (by decide)
  have n_1_2 := sw_i c_1_2 (k := 2) (by decide)
  have n_1_3 := sw_i c_1_3 (k := 3) (by decide)
  have n_1_4 := sw_i c_1_4 (k := 4) (by decide)
  have n_1_5 := sw_i c_1_5 (k := 5) (by decide)
  refine lv_tableOut (tgt := 102) hx hb dX2_write_1 (by omega) (by decide) ?_
  exact rt_V (s1 := _) hx hb hr hlk hK hP hD hS (Eq.symm (Eq.trans (if_neg c_1_0) (Eq.trans (if_neg c_1_1) (Eq.trans (if_neg c_1_2) (Eq.trans (if_neg c_1_3) (Eq.trans (if_neg c_1_4) (Eq.trans (if_neg c_1_5) (rfl)))))))) dX2_write_102

def f_X2_read (s : SB) (t : Int32) (k : Int32) : Int64 := if k = 0 then ((gB_L s) t.toNatClampNeg) else (if k = 1 then (Int32.toInt64 ((gB_P s) t.toNatClampNeg)) else (if k = 2 then (Int32.toInt64 ((gB_K s) t.toNatClampNeg)) else (if k = 3 then ((gB_T s) t.toNatClampNeg) else (if k = 4 then ((gB_LO s) t.toNatClampNeg) else (if k = 5 then ((gB_HI s) t.toNatClampNeg) else (0))))))
set_option maxHeartbeats 4000000 in
set_option maxRecDepth 100000 in
theorem c_X2_read (l : Launch) (D : va_G) (K : ClassId × ClassId × ClassId) (a : Nat → Nat) (s : SB) (t : Int32) (k : Int32) (h_t : vp_in t 8)  : MetL l yX2_read wsX2_read { frames := 0, cells := 0, slots := 0, locals := 0 } D vwCl (tyK K) (wB K a) [.ref (a 0), .int t, .int k] s (f_X2_read s t k) s := by
  intro sz0
  refine en_W (cc := cX2_read) (maxL := 3) (ret := (some .long)) (Qc := fun A => va_Ql (fun (x0 : Int64) (u0 : SB) => x0 = f_X2_read s t k ∧ u0 = s) (bs_a D vwCl (tyK K) (wB K a) A) A) (by decide) rfl (Nat.le_of_ble_eq_true rfl) ?_ sz0
  intro p e st m below meth c ls A hx hb hr hml hts hown hlk hA hK hP hD hS hl
  have hown : st.vm.findClass RX2 = some m.cls := hown
  have hl : lv_has ls 3 [(0, .ref (a 0)), (1, .int t), (2, .int k)] := hl
  have hinX2 : ∀ w ∈ u_ws RX2 TX2 15, w ∈ wsX2_read := fun w h => List.mem_cons_of_mem _ (List.mem_append_right _ h)
  have k9 := hts (.fieldLink RX2 9 "PuppetBar" "lengths" "[J") (by decide +kernel)
  have k13 := hts (.fieldLink RX2 13 "PuppetBar" "pulls" "[I") (by decide +kernel)
  have k17 := hts (.fieldLink RX2 17 "PuppetBar" "knots" "[I") (by decide +kernel)
  have k20 := hts (.fieldLink RX2 20 "PuppetBar" "twists" "[J") (by decide +kernel)
  have k23 := hts (.fieldLink RX2 23 "PuppetBar" "lows" "[J") (by decide +kernel)
  have k26 := hts (.fieldLink RX2 26 "PuppetBar" "highs" "[J") (by decide +kernel)
  refine lv_iload_n hx hb dX2_read_0 rfl (lv_at hl 2 rfl) ?_
  by_cases c_1_0 : k = 0
  · refine lv_tableIn (tgt := 40) (off := 39) hx hb dX2_read_1 (by rw [c_1_0]; decide) (by rw [c_1_0]; decide) (by rw [c_1_0]; rfl) (by decide) ?_
    refine lv_aload_n hx hb dX2_read_40 rfl (lv_at hl 0 rfl) ?_
    refine va_get (D := D) (ci := 1) (C := RX2) (T := TX2) (N := 15) hx hb hts hinX2 hown hK hP 0 rfl rfl 0 (by decide) k9 (fun _ h9 => h9) rfl dX2_read_41 ?_
    refine lv_iload_n hx hb dX2_read_44 rfl (lv_at hl 1 rfl) ?_
    refine va_lald hx hb hK hP 1 1 rfl rfl h_t dX2_read_45 ?_
    exact rt_L hx hb hr hlk hK hP hD hS ⟨Eq.symm (Eq.trans (if_pos c_1_0) (rfl)), rfl⟩ dX2_read_46
  by_cases c_1_1 : k = 1
  · refine lv_tableIn (tgt := 47) (off := 46) hx hb dX2_read_1 (by rw [c_1_1]; decide) (by rw [c_1_1]; decide) (by rw [c_1_1]; rfl) (by decide) ?_
    refine lv_aload_n hx hb dX2_read_47 rfl (lv_at hl 0 rfl) ?_
    refine va_get (D := D) (ci := 1) (C := RX2) (T := TX2) (N := 15) hx hb hts hinX2 hown hK hP 0 rfl rfl 1 (by decide) k13 (fun _ h9 => h9) rfl dX2_read_48 ?_
    refine lv_iload_n hx hb dX2_read_51 rfl (lv_at hl 1 rfl) ?_
    refine va_iald hx hb hK hP 2 0 rfl rfl h_t dX2_read_52 ?_
    refine lv_i2l hx hb dX2_read_53 rfl ?_
    exact rt_L hx hb hr hlk hK hP hD hS ⟨Eq.symm (Eq.trans (if_neg c_1_0) (Eq.trans (if_pos c_1_1) (rfl))), rfl⟩ dX2_read_54
  by_cases c_1_2 : k = 2
  · refine lv_tableIn (tgt := 55) (off := 54) hx hb dX2_read_1 (by rw [c_1_2]; decide) (by rw [c_1_2]; decide) (by rw [c_1_2]; rfl) (by decide) ?_
    refine lv_aload_n hx hb dX2_read_55 rfl (lv_at hl 0 rfl) ?_
    refine va_get (D := D) (ci := 1) (C := RX2) (T := TX2) (N := 15) hx hb hts hinX2 hown hK hP 0 rfl rfl 2 (by decide) k17 (fun _ h9 => h9) rfl dX2_read_56 ?_
    refine lv_iload_n hx hb dX2_read_59 rfl (lv_at hl 1 rfl) ?_
    refine va_iald hx hb hK hP 3 0 rfl rfl h_t dX2_read_60 ?_
    refine lv_i2l hx hb dX2_read_61 rfl ?_
    exact rt_L hx hb hr hlk hK hP hD hS ⟨Eq.symm (Eq.trans (if_neg c_1_0) (Eq.trans (if_neg c_1_1) (Eq.trans (if_pos c_1_2) (rfl)))), rfl⟩ dX2_read_62
  by_cases c_1_3 : k = 3
  · refine lv_tableIn (tgt := 63) (off := 62) hx hb dX2_read_1 (by rw [c_1_3]; decide) (by rw [c_1_3]; decide) (by rw [c_1_3]; rfl) (by decide) ?_
    refine lv_aload_n hx hb dX2_read_63 rfl (lv_at hl 0 rfl) ?_
    refine va_get (D := D) (ci := 1) (C := RX2) (T := TX2) (N := 15) hx hb hts hinX2 hown hK hP 0 rfl rfl 3 (by decide) k20 (fun _ h9 => h9) rfl dX2_read_64 ?_
    refine lv_iload_n hx hb dX2_read_67 rfl (lv_at hl 1 rfl) ?_
    refine va_lald hx hb hK hP 4 1 rfl rfl h_t dX2_read_68 ?_
    exact rt_L hx hb hr hlk hK hP hD hS ⟨Eq.symm (Eq.trans (if_neg c_1_0) (Eq.trans (if_neg c_1_1) (Eq.trans (if_neg c_1_2) (Eq.trans (if_pos c_1_3) (rfl))))), rfl⟩ dX2_read_69
  by_cases c_1_4 : k = 4
  · refine lv_tableIn (tgt := 70) (off := 69) hx hb dX2_read_1 (by rw [c_1_4]; decide) (by rw [c_1_4]; decide) (by rw [c_1_4]; rfl) (by decide) ?_
    refine lv_aload_n hx hb dX2_read_70 rfl (lv_at hl 0 rfl) ?_
    refine va_get (D := D) (ci := 1) (C := RX2) (T := TX2) (N := 15) hx hb hts hinX2 hown hK hP 0 rfl rfl 4 (by decide) k23 (fun _ h9 => h9) rfl dX2_read_71 ?_
    refine lv_iload_n hx hb dX2_read_74 rfl (lv_at hl 1 rfl) ?_
    refine va_lald hx hb hK hP 5 1 rfl rfl h_t dX2_read_75 ?_
    exact rt_L hx hb hr hlk hK hP hD hS ⟨Eq.symm (Eq.trans (if_neg c_1_0) (Eq.trans (if_neg c_1_1) (Eq.trans (if_neg c_1_2) (Eq.trans (if_neg c_1_3) (Eq.trans (if_pos c_1_4) (rfl)))))), rfl⟩ dX2_read_76
  by_cases c_1_5 : k = 5
  · refine lv_tableIn (tgt := 77) (off := 76) hx hb dX2_read_1 (by rw [c_1_5]; decide) (by rw [c_1_5]; decide) (by rw [c_1_5]; rfl) (by decide) ?_
    refine lv_aload_n hx hb dX2_read_77 rfl (lv_at hl 0 rfl) ?_
    refine va_get (D := D) (ci := 1) (C := RX2) (T := TX2) (N := 15) hx hb hts hinX2 hown hK hP 0 rfl rfl 5 (by decide) k26 (fun _ h9 => h9) rfl dX2_read_78 ?_
    refine lv_iload_n hx hb dX2_read_81 rfl (lv_at hl 1 rfl) ?_
    refine va_lald hx hb hK hP 6 1 rfl rfl h_t dX2_read_82 ?_
    exact rt_L hx hb hr hlk hK hP hD hS ⟨Eq.symm (Eq.trans (if_neg c_1_0) (Eq.trans (if_neg c_1_1) (Eq.trans (if_neg c_1_2) (Eq.trans (if_neg c_1_3) (Eq.trans (if_neg c_1_4) (Eq.trans (if_pos c_1_5) (rfl))))))), rfl⟩ dX2_read_83
  have n_1_0 := sw_i c_1_0 (k := 0) (by decide)
  have n_1_1 := sw_i c_1_1 (k := 1) (by decide)
  have n_1_2 := sw_i c_1_2 (k := 2) (by decide)
  have n_1_3 := sw_i c_1_3 (k := 3) (by decide)
  have n_1_4 := sw_i c_1_4 (k := 4) (by decide)
  have n_1_5 := sw_i c_1_5 (k := 5) (by decide)
  refine lv_tableOut (tgt := 84) hx hb dX2_read_1 (by omega) (by decide) ?_
  refine lv_lconst (v := 0) hx hb dX2_read_84 (by decide) ?_
  exact rt_L hx hb hr hlk hK hP hD hS ⟨Eq.symm (Eq.trans (if_neg c_1_0) (Eq.trans (if_neg c_1_1) (Eq.trans (if_neg c_1_2) (Eq.trans (if_neg c_1_3) (Eq.trans (if_neg c_1_4) (Eq.trans (if_neg c_1_5) (rfl))))))), rfl⟩ dX2_read_85

def f_X2_changeLength (s : SB) (t : Int32) (b : Int64) : SB := if ((gB_L s) t.toNatClampNeg) = b then (s) else (pB_CH (pB_L s (vp_updL (gB_L s) t.toNatClampNeg b)) (upd (gB_CH s) (1 : Int32).toNatClampNeg (((gB_CH s) (1 : Int32).toNatClampNeg) + 1)))
set_option maxHeartbeats 4000000 in
set_option maxRecDepth 100000 in
theorem c_X2_changeLength (l : Launch) (D : va_G) (K : ClassId × ClassId × ClassId) (a : Nat → Nat) (s : SB) (t : Int32) (b : Int64) (h_t : vp_in t 8)  : MetV l yX2_changeLength wsX2_changeLength { frames := 0, cells := 0, slots := 0, locals := 0 } D vwCl (tyK K) (wB K a) [.ref (a 0), .int t, .long b] s (f_X2_changeLength s t b) := by
  intro sz0
  refine en_W (cc := cX2_changeLength) (maxL := 4) (ret := none) (Qc := fun A => va_Qv (fun u0 : SB => u0 = f_X2_changeLength s t b) (bs_a D vwCl (tyK K) (wB K a) A) A) (by decide) rfl (Nat.le_of_ble_eq_true rfl) ?_ sz0
  intro p e st m below meth c ls A hx hb hr hml hts hown hlk hA hK hP hD hS hl
  have hown : st.vm.findClass RX2 = some m.cls := hown
  have hl : lv_has ls 4 [(0, .ref (a 0)), (1, .int t), (2, .long b)] := hl
  have hinX2 : ∀ w ∈ u_ws RX2 TX2 15, w ∈ wsX2_changeLength := fun w h => List.mem_cons_of_mem _ (List.mem_append_right _ h)
  have k9 := hts (.fieldLink RX2 9 "PuppetBar" "lengths" "[J") (by decide +kernel)
  have k57 := hts (.fieldLink RX2 57 "PuppetBar" "changes" "[I") (by decide +kernel)
  refine lv_aload_n hx hb dX2_changeLength_0 rfl (lv_at hl 0 rfl) ?_
  refine va_get (D := D) (ci := 1) (C := RX2) (T := TX2) (N := 15) hx hb hts hinX2 hown hK hP 0 rfl rfl 0 (by decide) k9 (fun _ h9 => h9) rfl dX2_changeLength_1 ?_
  refine lv_iload_n hx hb dX2_changeLength_4 rfl (lv_at hl 1 rfl) ?_
  refine va_lald hx hb hK hP 1 1 rfl rfl h_t dX2_changeLength_5 ?_
  refine lv_lload_n hx hb dX2_changeLength_6 rfl (lv_at hl 2 rfl) ?_
  refine W.lcmp hx hb dX2_changeLength_7 ?_
  refine lv_if_eq (tgt := 28) hx hb dX2_changeLength_8 (by decide) (fun c_8 => ?_) (fun c_8 => ?_)
  · have c_8 := (lg_cmp_eq _ _).mp c_8
    exact rt_V (s1 := _) hx hb hr hlk hK hP hD hS (Eq.symm (Eq.trans (if_pos c_8) (rfl))) dX2_changeLength_28
  · have c_8 := mt (lg_cmp_eq _ _).mpr c_8
    refine lv_aload_n hx hb dX2_changeLength_11 rfl (lv_at hl 0 rfl) ?_
    refine va_get (D := D) (ci := 1) (C := RX2) (T := TX2) (N := 15) hx hb hts hinX2 hown hK hP 0 rfl rfl 0 (by decide) k9 (fun _ h9 => h9) rfl dX2_changeLength_12 ?_
    refine lv_iload_n hx hb dX2_changeLength_15 rfl (lv_at hl 1 rfl) ?_
    refine lv_lload_n hx hb dX2_changeLength_16 rfl (lv_at hl 2 rfl) ?_
    refine va_last hx hb hK hP hD hS 1 1 rfl rfl h_t dX2_changeLength_17 (fun H locs hP hD hS => ?_)
    have hP : va_P D vwCl (wB K a (pB_L s (vp_updL (gB_L s) t.toNatClampNeg b))) H := hP
    have hD : va_D A (wB K a (pB_L s (vp_updL (gB_L s) t.toNatClampNeg b))) := hD
    refine lv_aload_n hx hb dX2_changeLength_18 rfl (lv_at hl 0 rfl) ?_
    refine va_get (D := D) (ci := 1) (C := RX2) (T := TX2) (N := 15) hx hb hts hinX2 hown hK hP 0 rfl rfl 13 (by decide) k57 (fun _ h9 => h9) rfl dX2_changeLength_19 ?_
    refine lv_iconst (v := 1) hx hb dX2_changeLength_22 (by decide) ?_
    refine lv_dup2_11 hx hb dX2_changeLength_23 rfl rfl ?_
    refine va_iald hx hb hK hP 9 0 rfl rfl (by unfold vp_in; decide) dX2_changeLength_24 ?_
    refine lv_iconst (v := 1) hx hb dX2_changeLength_25 (by decide) ?_
    refine lv_iadd hx hb dX2_changeLength_26 ?_
    refine va_iast hx hb hK hP hD hS 9 0 rfl rfl (by unfold vp_in; decide) dX2_changeLength_27 (fun H locs hP hD hS => ?_)
    have hP : va_P D vwCl (wB K a (pB_CH (pB_L s (vp_updL (gB_L s) t.toNatClampNeg b)) (upd (gB_CH s) (1 : Int32).toNatClampNeg (((gB_CH s) (1 : Int32).toNatClampNeg) + 1)))) H := hP
    have hD : va_D A (wB K a (pB_CH (pB_L s (vp_updL (gB_L s) t.toNatClampNeg b)) (upd (gB_CH s) (1 : Int32).toNatClampNeg (((gB_CH s) (1 : Int32).toNatClampNeg) + 1)))) := hD
    exact rt_V (s1 := _) hx hb hr hlk hK hP hD hS (Eq.symm (Eq.trans (if_neg c_8) (rfl))) dX2_changeLength_28

def f_X2_changePull (s : SB) (t : Int32) (b : Int32) : SB := if ((gB_P s) t.toNatClampNeg) = b then (s) else (pB_CH (pB_P s (upd (gB_P s) t.toNatClampNeg b)) (upd (gB_CH s) (2 : Int32).toNatClampNeg (((gB_CH s) (2 : Int32).toNatClampNeg) + 1)))
set_option maxHeartbeats 4000000 in
set_option maxRecDepth 100000 in
theorem c_X2_changePull (l : Launch) (D : va_G) (K : ClassId × ClassId × ClassId) (a : Nat → Nat) (s : SB) (t : Int32) (b : Int32) (h_t : vp_in t 8)  : MetV l yX2_changePull wsX2_changePull { frames := 0, cells := 0, slots := 0, locals := 0 } D vwCl (tyK K) (wB K a) [.ref (a 0), .int t, .int b] s (f_X2_changePull s t b) := by
  intro sz0
  refine en_W (cc := cX2_changePull) (maxL := 3) (ret := none) (Qc := fun A => va_Qv (fun u0 : SB => u0 = f_X2_changePull s t b) (bs_a D vwCl (tyK K) (wB K a) A) A) (by decide) rfl (Nat.le_of_ble_eq_true rfl) ?_ sz0
  intro p e st m below meth c ls A hx hb hr hml hts hown hlk hA hK hP hD hS hl
  have hown : st.vm.findClass RX2 = some m.cls := hown
  have hl : lv_has ls 3 [(0, .ref (a 0)), (1, .int t), (2, .int b)] := hl
  have hinX2 : ∀ w ∈ u_ws RX2 TX2 15, w ∈ wsX2_changePull := fun w h => List.mem_cons_of_mem _ (List.mem_append_right _ h)
  have k13 := hts (.fieldLink RX2 13 "PuppetBar" "pulls" "[I") (by decide +kernel)
  have k57 := hts (.fieldLink RX2 57 "PuppetBar" "changes" "[I") (by decide +kernel)
  refine lv_aload_n hx hb dX2_changePull_0 rfl (lv_at hl 0 rfl) ?_
  refine va_get (D := D) (ci := 1) (C := RX2) (T := TX2) (N := 15) hx hb hts hinX2 hown hK hP 0 rfl rfl 1 (by decide) k13 (fun _ h9 => h9) rfl dX2_changePull_1 ?_
  refine lv_iload_n hx hb dX2_changePull_4 rfl (lv_at hl 1 rfl) ?_
  refine va_iald hx hb hK hP 2 0 rfl rfl h_t dX2_changePull_5 ?_
  refine lv_iload_n hx hb dX2_changePull_6 rfl (lv_at hl 2 rfl) ?_
  refine lv_icmp_eq (tgt := 27) hx hb dX2_changePull_7 (by decide) (fun c_7 => ?_) (fun c_7 => ?_)
  · exact rt_V (s1 := _) hx hb hr hlk hK hP hD hS (Eq.symm (Eq.trans (if_pos c_7) (rfl))) dX2_changePull_27
  · refine lv_aload_n hx hb dX2_changePull_10 rfl (lv_at hl 0 rfl) ?_
    refine va_get (D := D) (ci := 1) (C := RX2) (T := TX2) (N := 15) hx hb hts hinX2 hown hK hP 0 rfl rfl 1 (by decide) k13 (fun _ h9 => h9) rfl dX2_changePull_11 ?_
    refine lv_iload_n hx hb dX2_changePull_14 rfl (lv_at hl 1 rfl) ?_
    refine lv_iload_n hx hb dX2_changePull_15 rfl (lv_at hl 2 rfl) ?_
    refine va_iast hx hb hK hP hD hS 2 0 rfl rfl h_t dX2_changePull_16 (fun H locs hP hD hS => ?_)
    have hP : va_P D vwCl (wB K a (pB_P s (upd (gB_P s) t.toNatClampNeg b))) H := hP
    have hD : va_D A (wB K a (pB_P s (upd (gB_P s) t.toNatClampNeg b))) := hD
    refine lv_aload_n hx hb dX2_changePull_17 rfl (lv_at hl 0 rfl) ?_
    refine va_get (D := D) (ci := 1) (C := RX2) (T := TX2) (N := 15) hx hb hts hinX2 hown hK hP 0 rfl rfl 13 (by decide) k57 (fun _ h9 => h9) rfl dX2_changePull_18 ?_
    refine lv_iconst (v := 2) hx hb dX2_changePull_21 (by decide) ?_
    refine lv_dup2_11 hx hb dX2_changePull_22 rfl rfl ?_
    refine va_iald hx hb hK hP 9 0 rfl rfl (by unfold vp_in; decide) dX2_changePull_23 ?_
    refine lv_iconst (v := 1) hx hb dX2_changePull_24 (by decide) ?_
    refine lv_iadd hx hb dX2_changePull_25 ?_
    refine va_iast hx hb hK hP hD hS 9 0 rfl rfl (by unfold vp_in; decide) dX2_changePull_26 (fun H locs hP hD hS => ?_)
    have hP : va_P D vwCl (wB K a (pB_CH (pB_P s (upd (gB_P s) t.toNatClampNeg b)) (upd (gB_CH s) (2 : Int32).toNatClampNeg (((gB_CH s) (2 : Int32).toNatClampNeg) + 1)))) H := hP
    have hD : va_D A (wB K a (pB_CH (pB_P s (upd (gB_P s) t.toNatClampNeg b)) (upd (gB_CH s) (2 : Int32).toNatClampNeg (((gB_CH s) (2 : Int32).toNatClampNeg) + 1)))) := hD
    exact rt_V (s1 := _) hx hb hr hlk hK hP hD hS (Eq.symm (Eq.trans (if_neg c_7) (rfl))) dX2_changePull_27

def f_X2_changeKnots (s : SB) (t : Int32) (b : Int32) : SB := if ((gB_K s) t.toNatClampNeg) = b then (s) else (pB_CH (pB_K s (upd (gB_K s) t.toNatClampNeg b)) (upd (gB_CH s) (3 : Int32).toNatClampNeg (((gB_CH s) (3 : Int32).toNatClampNeg) + 1)))
set_option maxHeartbeats 4000000 in
set_option maxRecDepth 100000 in
theorem c_X2_changeKnots (l : Launch) (D : va_G) (K : ClassId × ClassId × ClassId) (a : Nat → Nat) (s : SB) (t : Int32) (b : Int32) (h_t : vp_in t 8)  : MetV l yX2_changeKnots wsX2_changeKnots { frames := 0, cells := 0, slots := 0, locals := 0 } D vwCl (tyK K) (wB K a) [.ref (a 0), .int t, .int b] s (f_X2_changeKnots s t b) := by
  intro sz0
  refine en_W (cc := cX2_changeKnots) (maxL := 3) (ret := none) (Qc := fun A => va_Qv (fun u0 : SB => u0 = f_X2_changeKnots s t b) (bs_a D vwCl (tyK K) (wB K a) A) A) (by decide) rfl (Nat.le_of_ble_eq_true rfl) ?_ sz0
  intro p e st m below meth c ls A hx hb hr hml hts hown hlk hA hK hP hD hS hl
  have hown : st.vm.findClass RX2 = some m.cls := hown
  have hl : lv_has ls 3 [(0, .ref (a 0)), (1, .int t), (2, .int b)] := hl
  have hinX2 : ∀ w ∈ u_ws RX2 TX2 15, w ∈ wsX2_changeKnots := fun w h => List.mem_cons_of_mem _ (List.mem_append_right _ h)
  have k17 := hts (.fieldLink RX2 17 "PuppetBar" "knots" "[I") (by decide +kernel)
  have k57 := hts (.fieldLink RX2 57 "PuppetBar" "changes" "[I") (by decide +kernel)
  refine lv_aload_n hx hb dX2_changeKnots_0 rfl (lv_at hl 0 rfl) ?_
  refine va_get (D := D) (ci := 1) (C := RX2) (T := TX2) (N := 15) hx hb hts hinX2 hown hK hP 0 rfl rfl 2 (by decide) k17 (fun _ h9 => h9) rfl dX2_changeKnots_1 ?_
  refine lv_iload_n hx hb dX2_changeKnots_4 rfl (lv_at hl 1 rfl) ?_
  refine va_iald hx hb hK hP 3 0 rfl rfl h_t dX2_changeKnots_5 ?_
  refine lv_iload_n hx hb dX2_changeKnots_6 rfl (lv_at hl 2 rfl) ?_
  refine lv_icmp_eq (tgt := 27) hx hb dX2_changeKnots_7 (by decide) (fun c_7 => ?_) (fun c_7 => ?_)
  · exact rt_V (s1 := _) hx hb hr hlk hK hP hD hS (Eq.symm (Eq.trans (if_pos c_7) (rfl))) dX2_changeKnots_27
  · refine lv_aload_n hx hb dX2_changeKnots_10 rfl (lv_at hl 0 rfl) ?_
    refine va_get (D := D) (ci := 1) (C := RX2) (T := TX2) (N := 15) hx hb hts hinX2 hown hK hP 0 rfl rfl 2 (by decide) k17 (fun _ h9 => h9) rfl dX2_changeKnots_11 ?_
    refine lv_iload_n hx hb dX2_changeKnots_14 rfl (lv_at hl 1 rfl) ?_
    refine lv_iload_n hx hb dX2_changeKnots_15 rfl (lv_at hl 2 rfl) ?_
    refine va_iast hx hb hK hP hD hS 3 0 rfl rfl h_t dX2_changeKnots_16 (fun H locs hP hD hS => ?_)
    have hP : va_P D vwCl (wB K a (pB_K s (upd (gB_K s) t.toNatClampNeg b))) H := hP
    have hD : va_D A (wB K a (pB_K s (upd (gB_K s) t.toNatClampNeg b))) := hD
    refine lv_aload_n hx hb dX2_changeKnots_17 rfl (lv_at hl 0 rfl) ?_
    refine va_get (D := D) (ci := 1) (C := RX2) (T := TX2) (N := 15) hx hb hts hinX2 hown hK hP 0 rfl rfl 13 (by decide) k57 (fun _ h9 => h9) rfl dX2_changeKnots_18 ?_
    refine lv_iconst (v := 3) hx hb dX2_changeKnots_21 (by decide) ?_
    refine lv_dup2_11 hx hb dX2_changeKnots_22 rfl rfl ?_
    refine va_iald hx hb hK hP 9 0 rfl rfl (by unfold vp_in; decide) dX2_changeKnots_23 ?_
    refine lv_iconst (v := 1) hx hb dX2_changeKnots_24 (by decide) ?_
    refine lv_iadd hx hb dX2_changeKnots_25 ?_
    refine va_iast hx hb hK hP hD hS 9 0 rfl rfl (by unfold vp_in; decide) dX2_changeKnots_26 (fun H locs hP hD hS => ?_)
    have hP : va_P D vwCl (wB K a (pB_CH (pB_K s (upd (gB_K s) t.toNatClampNeg b)) (upd (gB_CH s) (3 : Int32).toNatClampNeg (((gB_CH s) (3 : Int32).toNatClampNeg) + 1)))) H := hP
    have hD : va_D A (wB K a (pB_CH (pB_K s (upd (gB_K s) t.toNatClampNeg b)) (upd (gB_CH s) (3 : Int32).toNatClampNeg (((gB_CH s) (3 : Int32).toNatClampNeg) + 1)))) := hD
    exact rt_V (s1 := _) hx hb hr hlk hK hP hD hS (Eq.symm (Eq.trans (if_neg c_7) (rfl))) dX2_changeKnots_27

def f_X2_changeTwist (s : SB) (t : Int32) (b : Int64) : SB := if ((gB_T s) t.toNatClampNeg) = b then (s) else (pB_CH (pB_T s (vp_updL (gB_T s) t.toNatClampNeg b)) (upd (gB_CH s) (4 : Int32).toNatClampNeg (((gB_CH s) (4 : Int32).toNatClampNeg) + 1)))
set_option maxHeartbeats 4000000 in
set_option maxRecDepth 100000 in
theorem c_X2_changeTwist (l : Launch) (D : va_G) (K : ClassId × ClassId × ClassId) (a : Nat → Nat) (s : SB) (t : Int32) (b : Int64) (h_t : vp_in t 8)  : MetV l yX2_changeTwist wsX2_changeTwist { frames := 0, cells := 0, slots := 0, locals := 0 } D vwCl (tyK K) (wB K a) [.ref (a 0), .int t, .long b] s (f_X2_changeTwist s t b) := by
  intro sz0
  refine en_W (cc := cX2_changeTwist) (maxL := 4) (ret := none) (Qc := fun A => va_Qv (fun u0 : SB => u0 = f_X2_changeTwist s t b) (bs_a D vwCl (tyK K) (wB K a) A) A) (by decide) rfl (Nat.le_of_ble_eq_true rfl) ?_ sz0
  intro p e st m below meth c ls A hx hb hr hml hts hown hlk hA hK hP hD hS hl
  have hown : st.vm.findClass RX2 = some m.cls := hown
  have hl : lv_has ls 4 [(0, .ref (a 0)), (1, .int t), (2, .long b)] := hl
  have hinX2 : ∀ w ∈ u_ws RX2 TX2 15, w ∈ wsX2_changeTwist := fun w h => List.mem_cons_of_mem _ (List.mem_append_right _ h)
  have k20 := hts (.fieldLink RX2 20 "PuppetBar" "twists" "[J") (by decide +kernel)
  have k57 := hts (.fieldLink RX2 57 "PuppetBar" "changes" "[I") (by decide +kernel)
  refine lv_aload_n hx hb dX2_changeTwist_0 rfl (lv_at hl 0 rfl) ?_
  refine va_get (D := D) (ci := 1) (C := RX2) (T := TX2) (N := 15) hx hb hts hinX2 hown hK hP 0 rfl rfl 3 (by decide) k20 (fun _ h9 => h9) rfl dX2_changeTwist_1 ?_
  refine lv_iload_n hx hb dX2_changeTwist_4 rfl (lv_at hl 1 rfl) ?_
  refine va_lald hx hb hK hP 4 1 rfl rfl h_t dX2_changeTwist_5 ?_
  refine lv_lload_n hx hb dX2_changeTwist_6 rfl (lv_at hl 2 rfl) ?_
  refine W.lcmp hx hb dX2_changeTwist_7 ?_
  refine lv_if_eq (tgt := 28) hx hb dX2_changeTwist_8 (by decide) (fun c_8 => ?_) (fun c_8 => ?_)
  · have c_8 := (lg_cmp_eq _ _).mp c_8
    exact rt_V (s1 := _) hx hb hr hlk hK hP hD hS (Eq.symm (Eq.trans (if_pos c_8) (rfl))) dX2_changeTwist_28
  · have c_8 := mt (lg_cmp_eq _ _).mpr c_8
    refine lv_aload_n hx hb dX2_changeTwist_11 rfl (lv_at hl 0 rfl) ?_
    refine va_get (D := D) (ci := 1) (C := RX2) (T := TX2) (N := 15) hx hb hts hinX2 hown hK hP 0 rfl rfl 3 (by decide) k20 (fun _ h9 => h9) rfl dX2_changeTwist_12 ?_
    refine lv_iload_n hx hb dX2_changeTwist_15 rfl (lv_at hl 1 rfl) ?_
    refine lv_lload_n hx hb dX2_changeTwist_16 rfl (lv_at hl 2 rfl) ?_
    refine va_last hx hb hK hP hD hS 4 1 rfl rfl h_t dX2_changeTwist_17 (fun H locs hP hD hS => ?_)
    have hP : va_P D vwCl (wB K a (pB_T s (vp_updL (gB_T s) t.toNatClampNeg b))) H := hP
    have hD : va_D A (wB K a (pB_T s (vp_updL (gB_T s) t.toNatClampNeg b))) := hD
    refine lv_aload_n hx hb dX2_changeTwist_18 rfl (lv_at hl 0 rfl) ?_
    refine va_get (D := D) (ci := 1) (C := RX2) (T := TX2) (N := 15) hx hb hts hinX2 hown hK hP 0 rfl rfl 13 (by decide) k57 (fun _ h9 => h9) rfl dX2_changeTwist_19 ?_
    refine lv_iconst (v := 4) hx hb dX2_changeTwist_22 (by decide) ?_
    refine lv_dup2_11 hx hb dX2_changeTwist_23 rfl rfl ?_
    refine va_iald hx hb hK hP 9 0 rfl rfl (by unfold vp_in; decide) dX2_changeTwist_24 ?_
    refine lv_iconst (v := 1) hx hb dX2_changeTwist_25 (by decide) ?_
    refine lv_iadd hx hb dX2_changeTwist_26 ?_
    refine va_iast hx hb hK hP hD hS 9 0 rfl rfl (by unfold vp_in; decide) dX2_changeTwist_27 (fun H locs hP hD hS => ?_)
    have hP : va_P D vwCl (wB K a (pB_CH (pB_T s (vp_updL (gB_T s) t.toNatClampNeg b)) (upd (gB_CH s) (4 : Int32).toNatClampNeg (((gB_CH s) (4 : Int32).toNatClampNeg) + 1)))) H := hP
    have hD : va_D A (wB K a (pB_CH (pB_T s (vp_updL (gB_T s) t.toNatClampNeg b)) (upd (gB_CH s) (4 : Int32).toNatClampNeg (((gB_CH s) (4 : Int32).toNatClampNeg) + 1)))) := hD
    exact rt_V (s1 := _) hx hb hr hlk hK hP hD hS (Eq.symm (Eq.trans (if_neg c_8) (rfl))) dX2_changeTwist_28

def f_X2_clearChanges (s : SB)  : SB := pB_CH s (upd (upd (upd (upd (upd (gB_CH s) (0 : Int32).toNatClampNeg 0) (1 : Int32).toNatClampNeg 0) (2 : Int32).toNatClampNeg 0) (3 : Int32).toNatClampNeg 0) (4 : Int32).toNatClampNeg 0)
set_option maxHeartbeats 4000000 in
set_option maxRecDepth 100000 in
theorem c_X2_clearChanges (l : Launch) (D : va_G) (K : ClassId × ClassId × ClassId) (a : Nat → Nat) (s : SB)    : MetV l yX2_clearChanges wsX2_clearChanges { frames := 0, cells := 0, slots := 0, locals := 0 } D vwCl (tyK K) (wB K a) [.ref (a 0)] s (f_X2_clearChanges s ) := by
  intro sz0
  refine en_W (cc := cX2_clearChanges) (maxL := 2) (ret := none) (Qc := fun A => va_Qv (fun u0 : SB => u0 = f_X2_clearChanges s ) (bs_a D vwCl (tyK K) (wB K a) A) A) (by decide) rfl (Nat.le_of_ble_eq_true rfl) ?_ sz0
  intro p e st m below meth c ls A hx hb hr hml hts hown hlk hA hK hP hD hS hl
  have hown : st.vm.findClass RX2 = some m.cls := hown
  have hl : lv_has ls 2 [(0, .ref (a 0))] := hl
  have hinX2 : ∀ w ∈ u_ws RX2 TX2 15, w ∈ wsX2_clearChanges := fun w h => List.mem_cons_of_mem _ (List.mem_append_right _ h)
  have k57 := hts (.fieldLink RX2 57 "PuppetBar" "changes" "[I") (by decide +kernel)
  refine lv_iconst (v := 0) hx hb dX2_clearChanges_0 (by decide) ?_
  refine lv_istore_n (lv' := [(1, .int 0), (0, .ref (a 0))]) hx hb dX2_clearChanges_1 rfl hl (by decide) rfl (fun ls hl => ?_)
  refine lv_iload_n hx hb dX2_clearChanges_2 rfl (lv_at hl 0 rfl) ?_
  refine lv_iconst (v := 5) hx hb dX2_clearChanges_3 (by decide) ?_
  refine lv_icmp_ge (tgt := 20) hx hb dX2_clearChanges_4 (by decide) (fun c1 => absurd (show (5 : Int32) ≤ (0 : Int32) from c1) (by decide)) (fun c1 => ?_)
  refine lv_aload_n hx hb dX2_clearChanges_7 rfl (lv_at hl 1 rfl) ?_
  refine va_get (D := D) (ci := 1) (C := RX2) (T := TX2) (N := 15) hx hb hts hinX2 hown hK hP 0 rfl rfl 13 (by decide) k57 (fun _ h9 => h9) rfl dX2_clearChanges_8 ?_
  refine lv_iload_n hx hb dX2_clearChanges_11 rfl (lv_at hl 0 rfl) ?_
  refine lv_iconst (v := 0) hx hb dX2_clearChanges_12 (by decide) ?_
  refine va_iast hx hb hK hP hD hS 9 0 rfl rfl (by unfold vp_in; decide) dX2_clearChanges_13 (fun H locs hP hD hS => ?_)
  have hP : va_P D vwCl (wB K a (pB_CH s (upd (gB_CH s) (0 : Int32).toNatClampNeg 0))) H := hP
  have hD : va_D A (wB K a (pB_CH s (upd (gB_CH s) (0 : Int32).toNatClampNeg 0))) := hD
  refine lv_iinc (v := 1) (lv' := [(1, .int 1), (0, .ref (a 0))]) hx hb dX2_clearChanges_14 hl (k := 0) rfl (by decide) (by decide) rfl (fun ls hl => ?_)
  refine lv_goto (tgt := 2) hx hb dX2_clearChanges_17 (by decide) ?_
  refine lv_iload_n hx hb dX2_clearChanges_2 rfl (lv_at hl 0 rfl) ?_
  refine lv_iconst (v := 5) hx hb dX2_clearChanges_3 (by decide) ?_
  refine lv_icmp_ge (tgt := 20) hx hb dX2_clearChanges_4 (by decide) (fun c2 => absurd (show (5 : Int32) ≤ (1 : Int32) from c2) (by decide)) (fun c2 => ?_)
  refine lv_aload_n hx hb dX2_clearChanges_7 rfl (lv_at hl 1 rfl) ?_
  refine va_get (D := D) (ci := 1) (C := RX2) (T := TX2) (N := 15) hx hb hts hinX2 hown hK hP 0 rfl rfl 13 (by decide) k57 (fun _ h9 => h9) rfl dX2_clearChanges_8 ?_
  refine lv_iload_n hx hb dX2_clearChanges_11 rfl (lv_at hl 0 rfl) ?_
  refine lv_iconst (v := 0) hx hb dX2_clearChanges_12 (by decide) ?_
  refine va_iast hx hb hK hP hD hS 9 0 rfl rfl (by unfold vp_in; decide) dX2_clearChanges_13 (fun H locs hP hD hS => ?_)
  have hP : va_P D vwCl (wB K a (pB_CH s (upd (upd (gB_CH s) (0 : Int32).toNatClampNeg 0) (1 : Int32).toNatClampNeg 0))) H := hP
  have hD : va_D A (wB K a (pB_CH s (upd (upd (gB_CH s) (0 : Int32).toNatClampNeg 0) (1 : Int32).toNatClampNeg 0))) := hD
  refine lv_iinc (v := 2) (lv' := [(1, .int 2), (0, .ref (a 0))]) hx hb dX2_clearChanges_14 hl (k := 0) rfl (by decide) (by decide) rfl (fun ls hl => ?_)
  refine lv_goto (tgt := 2) hx hb dX2_clearChanges_17 (by decide) ?_
  refine lv_iload_n hx hb dX2_clearChanges_2 rfl (lv_at hl 0 rfl) ?_
  refine lv_iconst (v := 5) hx hb dX2_clearChanges_3 (by decide) ?_
  refine lv_icmp_ge (tgt := 20) hx hb dX2_clearChanges_4 (by decide) (fun c3 => absurd (show (5 : Int32) ≤ (2 : Int32) from c3) (by decide)) (fun c3 => ?_)
  refine lv_aload_n hx hb dX2_clearChanges_7 rfl (lv_at hl 1 rfl) ?_
  refine va_get (D := D) (ci := 1) (C := RX2) (T := TX2) (N := 15) hx hb hts hinX2 hown hK hP 0 rfl rfl 13 (by decide) k57 (fun _ h9 => h9) rfl dX2_clearChanges_8 ?_
  refine lv_iload_n hx hb dX2_clearChanges_11 rfl (lv_at hl 0 rfl) ?_
  refine lv_iconst (v := 0) hx hb dX2_clearChanges_12 (by decide) ?_
  refine va_iast hx hb hK hP hD hS 9 0 rfl rfl (by unfold vp_in; decide) dX2_clearChanges_13 (fun H locs hP hD hS => ?_)
  have hP : va_P D vwCl (wB K a (pB_CH s (upd (upd (upd (gB_CH s) (0 : Int32).toNatClampNeg 0) (1 : Int32).toNatClampNeg 0) (2 : Int32).toNatClampNeg 0))) H := hP
  have hD : va_D A (wB K a (pB_CH s (upd (upd (upd (gB_CH s) (0 : Int32).toNatClampNeg 0) (1 : Int32).toNatClampNeg 0) (2 : Int32).toNatClampNeg 0))) := hD
  refine lv_iinc (v := 3) (lv' := [(1, .int 3), (0, .ref (a 0))]) hx hb dX2_clearChanges_14 hl (k := 0) rfl (by decide) (by decide) rfl (fun ls hl => ?_)
  refine lv_goto (tgt := 2) hx hb dX2_clearChanges_17 (by decide) ?_
  refine lv_iload_n hx hb dX2_clearChanges_2 rfl (lv_at hl 0 rfl) ?_
  refine lv_iconst (v := 5) hx hb dX2_clearChanges_3 (by decide) ?_
  refine lv_icmp_ge (tgt := 20) hx hb dX2_clearChanges_4 (by decide) (fun c4 => absurd (show (5 : Int32) ≤ (3 : Int32) from c4) (by decide)) (fun c4 => ?_)
  refine lv_aload_n hx hb dX2_clearChanges_7 rfl (lv_at hl 1 rfl) ?_
  refine va_get (D := D) (ci := 1) (C := RX2) (T := TX2) (N := 15) hx hb hts hinX2 hown hK hP 0 rfl rfl 13 (by decide) k57 (fun _ h9 => h9) rfl dX2_clearChanges_8 ?_
  refine lv_iload_n hx hb dX2_clearChanges_11 rfl (lv_at hl 0 rfl) ?_
  refine lv_iconst (v := 0) hx hb dX2_clearChanges_12 (by decide) ?_
  refine va_iast hx hb hK hP hD hS 9 0 rfl rfl (by unfold vp_in; decide) dX2_clearChanges_13 (fun H locs hP hD hS => ?_)
  have hP : va_P D vwCl (wB K a (pB_CH s (upd (upd (upd (upd (gB_CH s) (0 : Int32).toNatClampNeg 0) (1 : Int32).toNatClampNeg 0) (2 : Int32).toNatClampNeg 0) (3 : Int32).toNatClampNeg 0))) H := hP
  have hD : va_D A (wB K a (pB_CH s (upd (upd (upd (upd (gB_CH s) (0 : Int32).toNatClampNeg 0) (1 : Int32).toNatClampNeg 0) (2 : Int32).toNatClampNeg 0) (3 : Int32).toNatClampNeg 0))) := hD
  refine lv_iinc (v := 4) (lv' := [(1, .int 4), (0, .ref (a 0))]) hx hb dX2_clearChanges_14 hl (k := 0) rfl (by decide) (by decide) rfl (fun ls hl => ?_)
  refine lv_goto (tgt := 2) hx hb dX2_clearChanges_17 (by decide) ?_
  refine lv_iload_n hx hb dX2_clearChanges_2 rfl (lv_at hl 0 rfl) ?_
  refine lv_iconst (v := 5) hx hb dX2_clearChanges_3 (by decide) ?_
  refine lv_icmp_ge (tgt := 20) hx hb dX2_clearChanges_4 (by decide) (fun c5 => absurd (show (5 : Int32) ≤ (4 : Int32) from c5) (by decide)) (fun c5 => ?_)
  refine lv_aload_n hx hb dX2_clearChanges_7 rfl (lv_at hl 1 rfl) ?_
  refine va_get (D := D) (ci := 1) (C := RX2) (T := TX2) (N := 15) hx hb hts hinX2 hown hK hP 0 rfl rfl 13 (by decide) k57 (fun _ h9 => h9) rfl dX2_clearChanges_8 ?_
  refine lv_iload_n hx hb dX2_clearChanges_11 rfl (lv_at hl 0 rfl) ?_
  refine lv_iconst (v := 0) hx hb dX2_clearChanges_12 (by decide) ?_
  refine va_iast hx hb hK hP hD hS 9 0 rfl rfl (by unfold vp_in; decide) dX2_clearChanges_13 (fun H locs hP hD hS => ?_)
  have hP : va_P D vwCl (wB K a (pB_CH s (upd (upd (upd (upd (upd (gB_CH s) (0 : Int32).toNatClampNeg 0) (1 : Int32).toNatClampNeg 0) (2 : Int32).toNatClampNeg 0) (3 : Int32).toNatClampNeg 0) (4 : Int32).toNatClampNeg 0))) H := hP
  have hD : va_D A (wB K a (pB_CH s (upd (upd (upd (upd (upd (gB_CH s) (0 : Int32).toNatClampNeg 0) (1 : Int32).toNatClampNeg 0) (2 : Int32).toNatClampNeg 0) (3 : Int32).toNatClampNeg 0) (4 : Int32).toNatClampNeg 0))) := hD
  refine lv_iinc (v := 5) (lv' := [(1, .int 5), (0, .ref (a 0))]) hx hb dX2_clearChanges_14 hl (k := 0) rfl (by decide) (by decide) rfl (fun ls hl => ?_)
  refine lv_goto (tgt := 2) hx hb dX2_clearChanges_17 (by decide) ?_
  refine lv_iload_n hx hb dX2_clearChanges_2 rfl (lv_at hl 0 rfl) ?_
  refine lv_iconst (v := 5) hx hb dX2_clearChanges_3 (by decide) ?_
  refine lv_icmp_ge (tgt := 20) hx hb dX2_clearChanges_4 (by decide) (fun c6 => ?_) (fun c6 => absurd (show (5 : Int32) ≤ (5 : Int32) by decide) (show ¬ (5 : Int32) ≤ (5 : Int32) from c6))
  exact rt_V (s1 := _) hx hb hr hlk hK hP hD hS (Eq.symm (rfl)) dX2_clearChanges_20

def f_X2_keepDance (s : SB) (n : Int32) : SB := pB_LD s (upd (upd (upd (upd (upd (upd (gB_LD s) (0 : Int32).toNatClampNeg ((gB_CH s) (0 : Int32).toNatClampNeg)) (1 : Int32).toNatClampNeg ((gB_CH s) (1 : Int32).toNatClampNeg)) (2 : Int32).toNatClampNeg ((gB_CH s) (2 : Int32).toNatClampNeg)) (3 : Int32).toNatClampNeg ((gB_CH s) (3 : Int32).toNatClampNeg)) (4 : Int32).toNatClampNeg ((gB_CH s) (4 : Int32).toNatClampNeg)) (0 : Int32).toNatClampNeg n)
set_option maxHeartbeats 4000000 in
set_option maxRecDepth 100000 in
theorem c_X2_keepDance (l : Launch) (D : va_G) (K : ClassId × ClassId × ClassId) (a : Nat → Nat) (s : SB) (n : Int32)   : MetV l yX2_keepDance wsX2_keepDance { frames := 0, cells := 0, slots := 0, locals := 0 } D vwCl (tyK K) (wB K a) [.ref (a 0), .int n] s (f_X2_keepDance s n) := by
  intro sz0
  refine en_W (cc := cX2_keepDance) (maxL := 3) (ret := none) (Qc := fun A => va_Qv (fun u0 : SB => u0 = f_X2_keepDance s n) (bs_a D vwCl (tyK K) (wB K a) A) A) (by decide) rfl (Nat.le_of_ble_eq_true rfl) ?_ sz0
  intro p e st m below meth c ls A hx hb hr hml hts hown hlk hA hK hP hD hS hl
  have hown : st.vm.findClass RX2 = some m.cls := hown
  have hl : lv_has ls 3 [(0, .ref (a 0)), (1, .int n)] := hl
  have hinX2 : ∀ w ∈ u_ws RX2 TX2 15, w ∈ wsX2_keepDance := fun w h => List.mem_cons_of_mem _ (List.mem_append_right _ h)
  have k60 := hts (.fieldLink RX2 60 "PuppetBar" "latestDance" "[I") (by decide +kernel)
  have k57 := hts (.fieldLink RX2 57 "PuppetBar" "changes" "[I") (by decide +kernel)
  refine lv_iconst (v := 0) hx hb dX2_keepDance_0 (by decide) ?_
  refine lv_istore_n (lv' := [(2, .int 0), (0, .ref (a 0)), (1, .int n)]) hx hb dX2_keepDance_1 rfl hl (by decide) rfl (fun ls hl => ?_)
  refine lv_iload_n hx hb dX2_keepDance_2 rfl (lv_at hl 0 rfl) ?_
  refine lv_iconst (v := 5) hx hb dX2_keepDance_3 (by decide) ?_
  refine lv_icmp_ge (tgt := 25) hx hb dX2_keepDance_4 (by decide) (fun c1 => absurd (show (5 : Int32) ≤ (0 : Int32) from c1) (by decide)) (fun c1 => ?_)
  refine lv_aload_n hx hb dX2_keepDance_7 rfl (lv_at hl 1 rfl) ?_
  refine va_get (D := D) (ci := 1) (C := RX2) (T := TX2) (N := 15) hx hb hts hinX2 hown hK hP 0 rfl rfl 14 (by decide) k60 (fun _ h9 => h9) rfl dX2_keepDance_8 ?_
  refine lv_iload_n hx hb dX2_keepDance_11 rfl (lv_at hl 0 rfl) ?_
  refine lv_aload_n hx hb dX2_keepDance_12 rfl (lv_at hl 1 rfl) ?_
  refine va_get (D := D) (ci := 1) (C := RX2) (T := TX2) (N := 15) hx hb hts hinX2 hown hK hP 0 rfl rfl 13 (by decide) k57 (fun _ h9 => h9) rfl dX2_keepDance_13 ?_
  refine lv_iload_n hx hb dX2_keepDance_16 rfl (lv_at hl 0 rfl) ?_
  refine va_iald hx hb hK hP 9 0 rfl rfl (by unfold vp_in; decide) dX2_keepDance_17 ?_
  refine va_iast hx hb hK hP hD hS 10 0 rfl rfl (by unfold vp_in; decide) dX2_keepDance_18 (fun H locs hP hD hS => ?_)
  have hP : va_P D vwCl (wB K a (pB_LD s (upd (gB_LD s) (0 : Int32).toNatClampNeg ((gB_CH s) (0 : Int32).toNatClampNeg)))) H := hP
  have hD : va_D A (wB K a (pB_LD s (upd (gB_LD s) (0 : Int32).toNatClampNeg ((gB_CH s) (0 : Int32).toNatClampNeg)))) := hD
  refine lv_iinc (v := 1) (lv' := [(2, .int 1), (0, .ref (a 0)), (1, .int n)]) hx hb dX2_keepDance_19 hl (k := 0) rfl (by decide) (by decide) rfl (fun ls hl => ?_)
  refine lv_goto (tgt := 2) hx hb dX2_keepDance_22 (by decide) ?_
  refine lv_iload_n hx hb dX2_keepDance_2 rfl (lv_at hl 0 rfl) ?_
  refine lv_iconst (v := 5) hx hb dX2_keepDance_3 (by decide) ?_
  refine lv_icmp_ge (tgt := 25) hx hb dX2_keepDance_4 (by decide) (fun c2 => absurd (show (5 : Int32) ≤ (1 : Int32) from c2) (by decide)) (fun c2 => ?_)
  refine lv_aload_n hx hb dX2_keepDance_7 rfl (lv_at hl 1 rfl) ?_
  refine va_get (D := D) (ci := 1) (C := RX2) (T := TX2) (N := 15) hx hb hts hinX2 hown hK hP 0 rfl rfl 14 (by decide) k60 (fun _ h9 => h9) rfl dX2_keepDance_8 ?_
  refine lv_iload_n hx hb dX2_keepDance_11 rfl (lv_at hl 0 rfl) ?_
  refine lv_aload_n hx hb dX2_keepDance_12 rfl (lv_at hl 1 rfl) ?_
  refine va_get (D := D) (ci := 1) (C := RX2) (T := TX2) (N := 15) hx hb hts hinX2 hown hK hP 0 rfl rfl 13 (by decide) k57 (fun _ h9 => h9) rfl dX2_keepDance_13 ?_
  refine lv_iload_n hx hb dX2_keepDance_16 rfl (lv_at hl 0 rfl) ?_
  refine va_iald hx hb hK hP 9 0 rfl rfl (by unfold vp_in; decide) dX2_keepDance_17 ?_
  refine va_iast hx hb hK hP hD hS 10 0 rfl rfl (by unfold vp_in; decide) dX2_keepDance_18 (fun H locs hP hD hS => ?_)
  have hP : va_P D vwCl (wB K a (pB_LD s (upd (upd (gB_LD s) (0 : Int32).toNatClampNeg ((gB_CH s) (0 : Int32).toNatClampNeg)) (1 : Int32).toNatClampNeg ((gB_CH s) (1 : Int32).toNatClampNeg)))) H := hP
  have hD : va_D A (wB K a (pB_LD s (upd (upd (gB_LD s) (0 : Int32).toNatClampNeg ((gB_CH s) (0 : Int32).toNatClampNeg)) (1 : Int32).toNatClampNeg ((gB_CH s) (1 : Int32).toNatClampNeg)))) := hD
  refine lv_iinc (v := 2) (lv' := [(2, .int 2), (0, .ref (a 0)), (1, .int n)]) hx hb dX2_keepDance_19 hl (k := 0) rfl (by decide) (by decide) rfl (fun ls hl => ?_)
  refine lv_goto (tgt := 2) hx hb dX2_keepDance_22 (by decide) ?_
  refine lv_iload_n hx hb dX2_keepDance_2 rfl (lv_at hl 0 rfl) ?_
  refine lv_iconst (v := 5) hx hb dX2_keepDance_3 (by decide) ?_
  refine lv_icmp_ge (tgt := 25) hx hb dX2_keepDance_4 (by decide) (fun c3 => absurd (show (5 : Int32) ≤ (2 : Int32) from c3) (by decide)) (fun c3 => ?_)
  refine lv_aload_n hx hb dX2_keepDance_7 rfl (lv_at hl 1 rfl) ?_
  refine va_get (D := D) (ci := 1) (C := RX2) (T := TX2) (N := 15) hx hb hts hinX2 hown hK hP 0 rfl rfl 14 (by decide) k60 (fun _ h9 => h9) rfl dX2_keepDance_8 ?_
  refine lv_iload_n hx hb dX2_keepDance_11 rfl (lv_at hl 0 rfl) ?_
  refine lv_aload_n hx hb dX2_keepDance_12 rfl (lv_at hl 1 rfl) ?_
  refine va_get (D := D) (ci := 1) (C := RX2) (T := TX2) (N := 15) hx hb hts hinX2 hown hK hP 0 rfl rfl 13 (by decide) k57 (fun _ h9 => h9) rfl dX2_keepDance_13 ?_
  refine lv_iload_n hx hb dX2_keepDance_16 rfl (lv_at hl 0 rfl) ?_
  refine va_iald hx hb hK hP 9 0 rfl rfl (by unfold vp_in; decide) dX2_keepDance_17 ?_
  refine va_iast hx hb hK hP hD hS 10 0 rfl rfl (by unfold vp_in; decide) dX2_keepDance_18 (fun H locs hP hD hS => ?_)
  have hP : va_P D vwCl (wB K a (pB_LD s (upd (upd (upd (gB_LD s) (0 : Int32).toNatClampNeg ((gB_CH s) (0 : Int32).toNatClampNeg)) (1 : Int32).toNatClampNeg ((gB_CH s) (1 : Int32).toNatClampNeg)) (2 : Int32).toNatClampNeg ((gB_CH s) (2 : Int32).toNatClampNeg)))) H := hP
  have hD : va_D A (wB K a (pB_LD s (upd (upd (upd (gB_LD s) (0 : Int32).toNatClampNeg ((gB_CH s) (0 : Int32).toNatClampNeg)) (1 : Int32).toNatClampNeg ((gB_CH s) (1 : Int32).toNatClampNeg)) (2 : Int32).toNatClampNeg ((gB_CH s) (2 : Int32).toNatClampNeg)))) := hD
  refine lv_iinc (v := 3) (lv' := [(2, .int 3), (0, .ref (a 0)), (1, .int n)]) hx hb dX2_keepDance_19 hl (k := 0) rfl (by decide) (by decide) rfl (fun ls hl => ?_)
  refine lv_goto (tgt := 2) hx hb dX2_keepDance_22 (by decide) ?_
  refine lv_iload_n hx hb dX2_keepDance_2 rfl (lv_at hl 0 rfl) ?_
  refine lv_iconst (v := 5) hx hb dX2_keepDance_3 (by decide) ?_
  refine lv_icmp_ge (tgt := 25) hx hb dX2_keepDance_4 (by decide) (fun c4 => absurd (show (5 : Int32) ≤ (3 : Int32) from c4) (by decide)) (fun c4 => ?_)
  refine lv_aload_n hx hb dX2_keepDance_7 rfl (lv_at hl 1 rfl) ?_
  refine va_get (D := D) (ci := 1) (C := RX2) (T := TX2) (N := 15) hx hb hts hinX2 hown hK hP 0 rfl rfl 14 (by decide) k60 (fun _ h9 => h9) rfl dX2_keepDance_8 ?_
  refine lv_iload_n hx hb dX2_keepDance_11 rfl (lv_at hl 0 rfl) ?_
  refine lv_aload_n hx hb dX2_keepDance_12 rfl (lv_at hl 1 rfl) ?_
  refine va_get (D := D) (ci := 1) (C := RX2) (T := TX2) (N := 15) hx hb hts hinX2 hown hK hP 0 rfl rfl 13 (by decide) k57 (fun _ h9 => h9) rfl dX2_keepDance_13 ?_
  refine lv_iload_n hx hb dX2_keepDance_16 rfl (lv_at hl 0 rfl) ?_
  refine va_iald hx hb hK hP 9 0 rfl rfl (by unfold vp_in; decide) dX2_keepDance_17 ?_
  refine va_iast hx hb hK hP hD hS 10 0 rfl rfl (by unfold vp_in; decide) dX2_keepDance_18 (fun H locs hP hD hS => ?_)
  have hP : va_P D vwCl (wB K a (pB_LD s (upd (upd (upd (upd (gB_LD s) (0 : Int32).toNatClampNeg ((gB_CH s) (0 : Int32).toNatClampNeg)) (1 : Int32).toNatClampNeg ((gB_CH s) (1 : Int32).toNatClampNeg)) (2 : Int32).toNatClampNeg ((gB_CH s) (2 : Int32).toNatClampNeg)) (3 : Int32).toNatClampNeg ((gB_CH s) (3 : Int32).toNatClampNeg)))) H := hP
  have hD : va_D A (wB K a (pB_LD s (upd (upd (upd (upd (gB_LD s) (0 : Int32).toNatClampNeg ((gB_CH s) (0 : Int32).toNatClampNeg)) (1 : Int32).toNatClampNeg ((gB_CH s) (1 : Int32).toNatClampNeg)) (2 : Int32).toNatClampNeg ((gB_CH s) (2 : Int32).toNatClampNeg)) (3 : Int32).toNatClampNeg ((gB_CH s) (3 : Int32).toNatClampNeg)))) := hD
  refine lv_iinc (v := 4) (lv' := [(2, .int 4), (0, .ref (a 0)), (1, .int n)]) hx hb dX2_keepDance_19 hl (k := 0) rfl (by decide) (by decide) rfl (fun ls hl => ?_)
  refine lv_goto (tgt := 2) hx hb dX2_keepDance_22 (by decide) ?_
  refine lv_iload_n hx hb dX2_keepDance_2 rfl (lv_at hl 0 rfl) ?_
  refine lv_iconst (v := 5) hx hb dX2_keepDance_3 (by decide) ?_
  refine lv_icmp_ge (tgt := 25) hx hb dX2_keepDance_4 (by decide) (fun c5 => absurd (show (5 : Int32) ≤ (4 : Int32) from c5) (by decide)) (fun c5 => ?_)
  refine lv_aload_n hx hb dX2_keepDance_7 rfl (lv_at hl 1 rfl) ?_
  refine va_get (D := D) (ci := 1) (C := RX2) (T := TX2) (N := 15) hx hb hts hinX2 hown hK hP 0 rfl rfl 14 (by decide) k60 (fun _ h9 => h9) rfl dX2_keepDance_8 ?_
  refine lv_iload_n hx hb dX2_keepDance_11 rfl (lv_at hl 0 rfl) ?_
  refine lv_aload_n hx hb dX2_keepDance_12 rfl (lv_at hl 1 rfl) ?_
  refine va_get (D := D) (ci := 1) (C := RX2) (T := TX2) (N := 15) hx hb hts hinX2 hown hK hP 0 rfl rfl 13 (by decide) k57 (fun _ h9 => h9) rfl dX2_keepDance_13 ?_
  refine lv_iload_n hx hb dX2_keepDance_16 rfl (lv_at hl 0 rfl) ?_
  refine va_iald hx hb hK hP 9 0 rfl rfl (by unfold vp_in; decide) dX2_keepDance_17 ?_
  refine va_iast hx hb hK hP hD hS 10 0 rfl rfl (by unfold vp_in; decide) dX2_keepDance_18 (fun H locs hP hD hS => ?_)
  have hP : va_P D vwCl (wB K a (pB_LD s (upd (upd (upd (upd (upd (gB_LD s) (0 : Int32).toNatClampNeg ((gB_CH s) (0 : Int32).toNatClampNeg)) (1 : Int32).toNatClampNeg ((gB_CH s) (1 : Int32).toNatClampNeg)) (2 : Int32).toNatClampNeg ((gB_CH s) (2 : Int32).toNatClampNeg)) (3 : Int32).toNatClampNeg ((gB_CH s) (3 : Int32).toNatClampNeg)) (4 : Int32).toNatClampNeg ((gB_CH s) (4 : Int32).toNatClampNeg)))) H := hP
  have hD : va_D A (wB K a (pB_LD s (upd (upd (upd (upd (upd (gB_LD s) (0 : Int32).toNatClampNeg ((gB_CH s) (0 : Int32).toNatClampNeg)) (1 : Int32).toNatClampNeg ((gB_CH s) (1 : Int32).toNatClampNeg)) (2 : Int32).toNatClampNeg ((gB_CH s) (2 : Int32).toNatClampNeg)) (3 : Int32).toNatClampNeg ((gB_CH s) (3 : Int32).toNatClampNeg)) (4 : Int32).toNatClampNeg ((gB_CH s) (4 : Int32).toNatClampNeg)))) := hD
  refine lv_iinc (v := 5) (lv' := [(2, .int 5), (0, .ref (a 0)), (1, .int n)]) hx hb dX2_keepDance_19 hl (k := 0) rfl (by decide) (by decide) rfl (fun ls hl => ?_)
  refine lv_goto (tgt := 2) hx hb dX2_keepDance_22 (by decide) ?_
  refine lv_iload_n hx hb dX2_keepDance_2 rfl (lv_at hl 0 rfl) ?_
  refine lv_iconst (v := 5) hx hb dX2_keepDance_3 (by decide) ?_
  refine lv_icmp_ge (tgt := 25) hx hb dX2_keepDance_4 (by decide) (fun c6 => ?_) (fun c6 => absurd (show (5 : Int32) ≤ (5 : Int32) by decide) (show ¬ (5 : Int32) ≤ (5 : Int32) from c6))
  refine lv_aload_n hx hb dX2_keepDance_25 rfl (lv_at hl 1 rfl) ?_
  refine va_get (D := D) (ci := 1) (C := RX2) (T := TX2) (N := 15) hx hb hts hinX2 hown hK hP 0 rfl rfl 14 (by decide) k60 (fun _ h9 => h9) rfl dX2_keepDance_26 ?_
  refine lv_iconst (v := 0) hx hb dX2_keepDance_29 (by decide) ?_
  refine lv_iload_n hx hb dX2_keepDance_30 rfl (lv_at hl 2 rfl) ?_
  refine va_iast hx hb hK hP hD hS 10 0 rfl rfl (by unfold vp_in; decide) dX2_keepDance_31 (fun H locs hP hD hS => ?_)
  have hP : va_P D vwCl (wB K a (pB_LD s (upd (upd (upd (upd (upd (upd (gB_LD s) (0 : Int32).toNatClampNeg ((gB_CH s) (0 : Int32).toNatClampNeg)) (1 : Int32).toNatClampNeg ((gB_CH s) (1 : Int32).toNatClampNeg)) (2 : Int32).toNatClampNeg ((gB_CH s) (2 : Int32).toNatClampNeg)) (3 : Int32).toNatClampNeg ((gB_CH s) (3 : Int32).toNatClampNeg)) (4 : Int32).toNatClampNeg ((gB_CH s) (4 : Int32).toNatClampNeg)) (0 : Int32).toNatClampNeg n))) H := hP
  have hD : va_D A (wB K a (pB_LD s (upd (upd (upd (upd (upd (upd (gB_LD s) (0 : Int32).toNatClampNeg ((gB_CH s) (0 : Int32).toNatClampNeg)) (1 : Int32).toNatClampNeg ((gB_CH s) (1 : Int32).toNatClampNeg)) (2 : Int32).toNatClampNeg ((gB_CH s) (2 : Int32).toNatClampNeg)) (3 : Int32).toNatClampNeg ((gB_CH s) (3 : Int32).toNatClampNeg)) (4 : Int32).toNatClampNeg ((gB_CH s) (4 : Int32).toNatClampNeg)) (0 : Int32).toNatClampNeg n))) := hD
  exact rt_V (s1 := _) hx hb hr hlk hK hP hD hS (Eq.symm (rfl)) dX2_keepDance_32

def f_X2_changeAmounts (s : SB) (t : Int32) (b : Int64) (g : Int64) : SB := let s1 := f_X2_changeLength s t (f_X1_withSign b ((gB_L s) t.toNatClampNeg)); let s2 := f_X2_changePull s1 t (f_X1_shortWithSign (Int64.toInt32 g) ((gB_P s1) t.toNatClampNeg)); s2
set_option maxHeartbeats 4000000 in
set_option maxRecDepth 100000 in
theorem c_X2_changeAmounts (l : Launch) (D : va_G) (K : ClassId × ClassId × ClassId) (a : Nat → Nat) (s : SB) (t : Int32) (b : Int64) (g : Int64) (h_t : vp_in t 8)  : MetV l yX2_changeAmounts wsX2_changeAmounts { frames := 1, cells := 0, slots := 0, locals := 23 } D vwCl (tyK K) (wB K a) [.ref (a 0), .int t, .long b, .long g] s (f_X2_changeAmounts s t b g) := by
  intro sz0
  refine en_W (cc := cX2_changeAmounts) (maxL := 6) (ret := none) (Qc := fun A => va_Qv (fun u0 : SB => u0 = f_X2_changeAmounts s t b g) (bs_a D vwCl (tyK K) (wB K a) A) A) (by decide) rfl (Nat.le_of_ble_eq_true rfl) ?_ sz0
  intro p e st m below meth c ls A hx hb hr hml hts hown hlk hA hK hP hD hS hl
  have hown : st.vm.findClass RX2 = some m.cls := hown
  have hl : lv_has ls 6 [(0, .ref (a 0)), (1, .int t), (2, .long b), (4, .long g)] := hl
  have hinX2 : ∀ w ∈ u_ws RX2 TX2 15, w ∈ wsX2_changeAmounts := fun w h => List.mem_cons_of_mem _ (List.mem_append_right _ h)
  have k9 := hts (.fieldLink RX2 9 "PuppetBar" "lengths" "[J") (by decide +kernel)
  have k13 := hts (.fieldLink RX2 13 "PuppetBar" "pulls" "[I") (by decide +kernel)
  refine lv_aload_n hx hb dX2_changeAmounts_0 rfl (lv_at hl 0 rfl) ?_
  refine lv_iload_n hx hb dX2_changeAmounts_1 rfl (lv_at hl 1 rfl) ?_
  refine lv_lload_n hx hb dX2_changeAmounts_2 rfl (lv_at hl 2 rfl) ?_
  refine lv_aload_n hx hb dX2_changeAmounts_3 rfl (lv_at hl 0 rfl) ?_
  refine va_get (D := D) (ci := 1) (C := RX2) (T := TX2) (N := 15) hx hb hts hinX2 hown hK hP 0 rfl rfl 0 (by decide) k9 (fun _ h9 => h9) rfl dX2_changeAmounts_4 ?_
  refine lv_iload_n hx hb dX2_changeAmounts_7 rfl (lv_at hl 1 rfl) ?_
  refine va_lald hx hb hK hP 1 1 rfl rfl h_t dX2_changeAmounts_8 ?_
  refine cl_Pl (c_X1_withSign l _ _) ⟨hx, hb, hml, hown, hts⟩ (va_cwS 2 hts gX2_changeAmounts_X1_withSign rfl rfl rfl (by decide +kernel) ⟨Nat.le_of_ble_eq_true rfl, Nat.le_of_ble_eq_true rfl⟩) rfl hl.1 rfl (Nat.le_of_ble_eq_true rfl) (Nat.zero_le _) (Nat.zero_le _) dX2_changeAmounts_9 ?_
  refine cl_V (c_X2_changeLength l D K a _ _ _ h_t) ⟨hx, hb, hml, hown, hts⟩ (cwV 2 hts gX2_changeAmounts_X2_changeLength rfl rfl rfl (by decide +kernel) ⟨Nat.le_of_ble_eq_true rfl, Nat.le_of_ble_eq_true rfl⟩) hK hP hD hS hA rfl rfl rfl rfl hl.1 rfl (Nat.le_of_ble_eq_true rfl) (Nat.zero_le _) (Nat.zero_le _) dX2_changeAmounts_12 (fun H locs hP hD hS => ?_)
  obtain ⟨s1, es1⟩ : ∃ zz : SB, f_X2_changeLength s t (f_X1_withSign b ((gB_L s) t.toNatClampNeg)) = zz := ⟨_, rfl⟩
  rw [es1] at hP hD
  refine lv_aload_n hx hb dX2_changeAmounts_15 rfl (lv_at hl 0 rfl) ?_
  refine lv_iload_n hx hb dX2_changeAmounts_16 rfl (lv_at hl 1 rfl) ?_
  refine lv_lload hx hb dX2_changeAmounts_17 (lv_at hl 3 rfl) ?_
  refine lv_l2i hx hb dX2_changeAmounts_19 rfl ?_
  refine lv_aload_n hx hb dX2_changeAmounts_20 rfl (lv_at hl 0 rfl) ?_
  refine va_get (D := D) (ci := 1) (C := RX2) (T := TX2) (N := 15) hx hb hts hinX2 hown hK hP 0 rfl rfl 1 (by decide) k13 (fun _ h9 => h9) rfl dX2_changeAmounts_21 ?_
  refine lv_iload_n hx hb dX2_changeAmounts_24 rfl (lv_at hl 1 rfl) ?_
  refine va_iald hx hb hK hP 2 0 rfl rfl h_t dX2_changeAmounts_25 ?_
  refine cl_Pi (c_X1_shortWithSign l _ _) ⟨hx, hb, hml, hown, hts⟩ (va_cwS 2 hts gX2_changeAmounts_X1_shortWithSign rfl rfl rfl (by decide +kernel) ⟨Nat.le_of_ble_eq_true rfl, Nat.le_of_ble_eq_true rfl⟩) rfl hl.1 rfl (Nat.le_of_ble_eq_true rfl) (Nat.zero_le _) (Nat.zero_le _) dX2_changeAmounts_26 ?_
  refine cl_V (c_X2_changePull l D K a _ _ _ h_t) ⟨hx, hb, hml, hown, hts⟩ (cwV 2 hts gX2_changeAmounts_X2_changePull rfl rfl rfl (by decide +kernel) ⟨Nat.le_of_ble_eq_true rfl, Nat.le_of_ble_eq_true rfl⟩) hK hP hD hS hA rfl rfl rfl rfl hl.1 rfl (Nat.le_of_ble_eq_true rfl) (Nat.zero_le _) (Nat.zero_le _) dX2_changeAmounts_29 (fun H locs hP hD hS => ?_)
  obtain ⟨s2, es2⟩ : ∃ zz : SB, f_X2_changePull s1 t (f_X1_shortWithSign (Int64.toInt32 g) ((gB_P s1) t.toNatClampNeg)) = zz := ⟨_, rfl⟩
  rw [es2] at hP hD
  subst es2 es1
  exact rt_V (s1 := _) hx hb hr hlk hK hP hD hS (Eq.symm (rfl)) dX2_changeAmounts_32
