def f_X2_compareStrung (s : SB) (t : Int32) (u : Int32) : Int32 := let x1 := f_J13_compare_74951 (f_X1_rank ((gB_L s) t.toNatClampNeg)) (f_X1_rank ((gB_L s) u.toNatClampNeg)); if x1 = 0 then (let x4 := f_J6_compare_7cf53 (f_X1_shortRank ((gB_P s) t.toNatClampNeg)) (f_X1_shortRank ((gB_P s) u.toNatClampNeg)); if x4 = 0 then (let x6 := f_J6_compare_7cf53 ((gB_K s) t.toNatClampNeg) ((gB_K s) u.toNatClampNeg); if x6 = 0 then (let x7 := f_J13_compare_74951 ((gB_T s) t.toNatClampNeg) ((gB_T s) u.toNatClampNeg); x7) else (x6)) else (x4)) else (x1)
set_option maxHeartbeats 4000000 in
set_option maxRecDepth 100000 in
theorem c_X2_compareStrung (l : Launch) (D : va_G) (K : ClassId × ClassId × ClassId) (a : Nat → Nat) (s : SB) (t : Int32) (u : Int32) (h_t : vp_in t 8) (h_u : vp_in u 8)  : MetI l yX2_compareStrung wsX2_compareStrung { frames := 1, cells := 0, slots := 0, locals := 23 } D vwCl (tyK K) (wB K a) [.ref (a 0), .int t, .int u] s (f_X2_compareStrung s t u) s := by
  intro sz0
  refine en_W (cc := cX2_compareStrung) (maxL := 4) (ret := (some .int)) (Qc := fun A => va_Qi (fun (x0 : Int32) (u0 : SB) => x0 = f_X2_compareStrung s t u ∧ u0 = s) (bs_a D vwCl (tyK K) (wB K a) A) A) (by decide) rfl (Nat.le_of_ble_eq_true rfl) ?_ sz0
  intro p e st m below meth c ls A hx hb hr hml hts hown hlk hA hK hP hD hS hl
  have hown : st.vm.findClass RX2 = some m.cls := hown
  have hl : lv_has ls 4 [(0, .ref (a 0)), (1, .int t), (2, .int u)] := hl
  have hinX2 : ∀ w ∈ u_ws RX2 TX2 15, w ∈ wsX2_compareStrung := fun w h => List.mem_cons_of_mem _ (List.mem_append_right _ h)
  have k9 := hts (.fieldLink RX2 9 "PuppetBar" "lengths" "[J") (by decide +kernel)
  have k13 := hts (.fieldLink RX2 13 "PuppetBar" "pulls" "[I") (by decide +kernel)
  have k17 := hts (.fieldLink RX2 17 "PuppetBar" "knots" "[I") (by decide +kernel)
  have k20 := hts (.fieldLink RX2 20 "PuppetBar" "twists" "[J") (by decide +kernel)
  refine lv_aload_n hx hb dX2_compareStrung_0 rfl (lv_at hl 0 rfl) ?_
  refine va_get (D := D) (ci := 1) (C := RX2) (T := TX2) (N := 15) hx hb hts hinX2 hown hK hP 0 rfl rfl 0 (by decide) k9 (fun _ h9 => h9) rfl dX2_compareStrung_1 ?_
  refine lv_iload_n hx hb dX2_compareStrung_4 rfl (lv_at hl 1 rfl) ?_
  refine va_lald hx hb hK hP 1 1 rfl rfl h_t dX2_compareStrung_5 ?_
  refine cl_Pl (c_X1_rank l _) ⟨hx, hb, hml, hown, hts⟩ (va_cwS 1 hts gX2_compareStrung_X1_rank rfl rfl rfl (by decide +kernel) ⟨Nat.le_of_ble_eq_true rfl, Nat.le_of_ble_eq_true rfl⟩) rfl hl.1 rfl (Nat.le_of_ble_eq_true rfl) (Nat.zero_le _) (Nat.zero_le _) dX2_compareStrung_6 ?_
  refine lv_aload_n hx hb dX2_compareStrung_9 rfl (lv_at hl 0 rfl) ?_
  refine va_get (D := D) (ci := 1) (C := RX2) (T := TX2) (N := 15) hx hb hts hinX2 hown hK hP 0 rfl rfl 0 (by decide) k9 (fun _ h9 => h9) rfl dX2_compareStrung_10 ?_
  refine lv_iload_n hx hb dX2_compareStrung_13 rfl (lv_at hl 2 rfl) ?_
  refine va_lald hx hb hK hP 1 1 rfl rfl h_u dX2_compareStrung_14 ?_
  refine cl_Pl (c_X1_rank l _) ⟨hx, hb, hml, hown, hts⟩ (va_cwS 1 hts gX2_compareStrung_X1_rank rfl rfl rfl (by decide +kernel) ⟨Nat.le_of_ble_eq_true rfl, Nat.le_of_ble_eq_true rfl⟩) rfl hl.1 rfl (Nat.le_of_ble_eq_true rfl) (Nat.zero_le _) (Nat.zero_le _) dX2_compareStrung_15 ?_
  refine cl_Pi (c_J13_compare_74951 l _ _) ⟨hx, hb, hml, hown, hts⟩ (va_cwS 2 hts gX2_compareStrung_J13_compare_74951 rfl rfl rfl (by decide +kernel) ⟨Nat.le_of_ble_eq_true rfl, Nat.le_of_ble_eq_true rfl⟩) rfl hl.1 rfl (Nat.le_of_ble_eq_true rfl) (Nat.zero_le _) (Nat.zero_le _) dX2_compareStrung_18 ?_
  refine tpi (fun x1 ex1 => ?_)
  refine lv_istore_n (lv' := [(3, .int x1), (0, .ref (a 0)), (1, .int t), (2, .int u)]) hx hb dX2_compareStrung_21 rfl hl (by decide) rfl (fun ls hl => ?_)
  refine lv_iload_n hx hb dX2_compareStrung_22 rfl (lv_at hl 0 rfl) ?_
  refine lv_if_ne (tgt := 48) hx hb dX2_compareStrung_23 (by decide) (fun c_23 => ?_) (fun c_23 => ?_)
  · refine lv_iload_n hx hb dX2_compareStrung_48 rfl (lv_at hl 0 rfl) ?_
    refine lv_if_ne (tgt := 68) hx hb dX2_compareStrung_49 (by decide) (fun c2 => ?_) (fun c2 => absurd c2 c_23)
    refine lv_iload_n hx hb dX2_compareStrung_68 rfl (lv_at hl 0 rfl) ?_
    refine lv_if_ne (tgt := 88) hx hb dX2_compareStrung_69 (by decide) (fun c3 => ?_) (fun c3 => absurd c3 c_23)
    refine lv_iload_n hx hb dX2_compareStrung_88 rfl (lv_at hl 0 rfl) ?_
    subst ex1
    exact rt_I hx hb hr hlk hK hP hD hS ⟨Eq.symm (Eq.trans (if_neg c_23) (rfl)), rfl⟩ dX2_compareStrung_89
  · refine lv_aload_n hx hb dX2_compareStrung_26 rfl (lv_at hl 1 rfl) ?_
    refine va_get (D := D) (ci := 1) (C := RX2) (T := TX2) (N := 15) hx hb hts hinX2 hown hK hP 0 rfl rfl 1 (by decide) k13 (fun _ h9 => h9) rfl dX2_compareStrung_27 ?_
    refine lv_iload_n hx hb dX2_compareStrung_30 rfl (lv_at hl 2 rfl) ?_
    refine va_iald hx hb hK hP 2 0 rfl rfl h_t dX2_compareStrung_31 ?_
    refine cl_Pi (c_X1_shortRank l _) ⟨hx, hb, hml, hown, hts⟩ (va_cwS 1 hts gX2_compareStrung_X1_shortRank rfl rfl rfl (by decide +kernel) ⟨Nat.le_of_ble_eq_true rfl, Nat.le_of_ble_eq_true rfl⟩) rfl hl.1 rfl (Nat.le_of_ble_eq_true rfl) (Nat.zero_le _) (Nat.zero_le _) dX2_compareStrung_32 ?_
    refine lv_aload_n hx hb dX2_compareStrung_35 rfl (lv_at hl 1 rfl) ?_
    refine va_get (D := D) (ci := 1) (C := RX2) (T := TX2) (N := 15) hx hb hts hinX2 hown hK hP 0 rfl rfl 1 (by decide) k13 (fun _ h9 => h9) rfl dX2_compareStrung_36 ?_
    refine lv_iload_n hx hb dX2_compareStrung_39 rfl (lv_at hl 3 rfl) ?_
    refine va_iald hx hb hK hP 2 0 rfl rfl h_u dX2_compareStrung_40 ?_
    refine cl_Pi (c_X1_shortRank l _) ⟨hx, hb, hml, hown, hts⟩ (va_cwS 1 hts gX2_compareStrung_X1_shortRank rfl rfl rfl (by decide +kernel) ⟨Nat.le_of_ble_eq_true rfl, Nat.le_of_ble_eq_true rfl⟩) rfl hl.1 rfl (Nat.le_of_ble_eq_true rfl) (Nat.zero_le _) (Nat.zero_le _) dX2_compareStrung_41 ?_
    refine cl_Pi (c_J6_compare_7cf53 l _ _) ⟨hx, hb, hml, hown, hts⟩ (va_cwS 2 hts gX2_compareStrung_J6_compare_7cf53 rfl rfl rfl (by decide +kernel) ⟨Nat.le_of_ble_eq_true rfl, Nat.le_of_ble_eq_true rfl⟩) rfl hl.1 rfl (Nat.le_of_ble_eq_true rfl) (Nat.zero_le _) (Nat.zero_le _) dX2_compareStrung_44 ?_
    refine tpi (fun x4 ex4 => ?_)
    refine lv_istore_n (lv' := [(3, .int x4), (0, .ref (a 0)), (1, .int t), (2, .int u)]) hx hb dX2_compareStrung_47 rfl hl (by decide) rfl (fun ls hl => ?_)
    refine lv_iload_n hx hb dX2_compareStrung_48 rfl (lv_at hl 0 rfl) ?_
    refine lv_if_ne (tgt := 68) hx hb dX2_compareStrung_49 (by decide) (fun c_49 => ?_) (fun c_49 => ?_)
    · refine lv_iload_n hx hb dX2_compareStrung_68 rfl (lv_at hl 0 rfl) ?_
      refine lv_if_ne (tgt := 88) hx hb dX2_compareStrung_69 (by decide) (fun c5 => ?_) (fun c5 => absurd c5 c_49)
      refine lv_iload_n hx hb dX2_compareStrung_88 rfl (lv_at hl 0 rfl) ?_
      subst ex4 ex1
      exact rt_I hx hb hr hlk hK hP hD hS ⟨Eq.symm (Eq.trans (if_pos c_23) (Eq.trans (if_neg c_49) (rfl))), rfl⟩ dX2_compareStrung_89
    · refine lv_aload_n hx hb dX2_compareStrung_52 rfl (lv_at hl 1 rfl) ?_
      refine va_get (D := D) (ci := 1) (C := RX2) (T := TX2) (N := 15) hx hb hts hinX2 hown hK hP 0 rfl rfl 2 (by decide) k17 (fun _ h9 => h9) rfl dX2_compareStrung_53 ?_
      refine lv_iload_n hx hb dX2_compareStrung_56 rfl (lv_at hl 2 rfl) ?_
      refine va_iald hx hb hK hP 3 0 rfl rfl h_t dX2_compareStrung_57 ?_
      refine lv_aload_n hx hb dX2_compareStrung_58 rfl (lv_at hl 1 rfl) ?_
      refine va_get (D := D) (ci := 1) (C := RX2) (T := TX2) (N := 15) hx hb hts hinX2 hown hK hP 0 rfl rfl 2 (by decide) k17 (fun _ h9 => h9) rfl dX2_compareStrung_59 ?_
      refine lv_iload_n hx hb dX2_compareStrung_62 rfl (lv_at hl 3 rfl) ?_
      refine va_iald hx hb hK hP 3 0 rfl rfl h_u dX2_compareStrung_63 ?_
      refine cl_Pi (c_J6_compare_7cf53 l _ _) ⟨hx, hb, hml, hown, hts⟩ (va_cwS 2 hts gX2_compareStrung_J6_compare_7cf53 rfl rfl rfl (by decide +kernel) ⟨Nat.le_of_ble_eq_true rfl, Nat.le_of_ble_eq_true rfl⟩) rfl hl.1 rfl (Nat.le_of_ble_eq_true rfl) (Nat.zero_le _) (Nat.zero_le _) dX2_compareStrung_64 ?_
      refine tpi (fun x6 ex6 => ?_)
      refine lv_istore_n (lv' := [(3, .int x6), (0, .ref (a 0)), (1, .int t), (2, .int u)]) hx hb dX2_compareStrung_67 rfl hl (by decide) rfl (fun ls hl => ?_)
      refine lv_iload_n hx hb dX2_compareStrung_68 rfl (lv_at hl 0 rfl) ?_
      refine lv_if_ne (tgt := 88) hx hb dX2_compareStrung_69 (by decide) (fun c_69 => ?_) (fun c_69 => ?_)
      · refine lv_iload_n hx hb dX2_compareStrung_88 rfl (lv_at hl 0 rfl) ?_
        subst ex6 ex4 ex1
        exact rt_I hx hb hr hlk hK hP hD hS ⟨Eq.symm (Eq.trans (if_pos c_23) (Eq.trans (if_pos c_49) (Eq.trans (if_neg c_69) (rfl)))), rfl⟩ dX2_compareStrung_89
      · refine lv_aload_n hx hb dX2_compareStrung_72 rfl (lv_at hl 1 rfl) ?_
        refine va_get (D := D) (ci := 1) (C := RX2) (T := TX2) (N := 15) hx hb hts hinX2 hown hK hP 0 rfl rfl 3 (by decide) k20 (fun _ h9 => h9) rfl dX2_compareStrung_73 ?_
        refine lv_iload_n hx hb dX2_compareStrung_76 rfl (lv_at hl 2 rfl) ?_
        refine va_lald hx hb hK hP 4 1 rfl rfl h_t dX2_compareStrung_77 ?_
        refine lv_aload_n hx hb dX2_compareStrung_78 rfl (lv_at hl 1 rfl) ?_
        refine va_get (D := D) (ci := 1) (C := RX2) (T := TX2) (N := 15) hx hb hts hinX2 hown hK hP 0 rfl rfl 3 (by decide) k20 (fun _ h9 => h9) rfl dX2_compareStrung_79 ?_
        refine lv_iload_n hx hb dX2_compareStrung_82 rfl (lv_at hl 3 rfl) ?_
        refine va_lald hx hb hK hP 4 1 rfl rfl h_u dX2_compareStrung_83 ?_
        refine cl_Pi (c_J13_compare_74951 l _ _) ⟨hx, hb, hml, hown, hts⟩ (va_cwS 2 hts gX2_compareStrung_J13_compare_74951 rfl rfl rfl (by decide +kernel) ⟨Nat.le_of_ble_eq_true rfl, Nat.le_of_ble_eq_true rfl⟩) rfl hl.1 rfl (Nat.le_of_ble_eq_true rfl) (Nat.zero_le _) (Nat.zero_le _) dX2_compareStrung_84 ?_
        refine tpi (fun x7 ex7 => ?_)
        refine lv_istore_n (lv' := [(3, .int x7), (0, .ref (a 0)), (1, .int t), (2, .int u)]) hx hb dX2_compareStrung_87 rfl hl (by decide) rfl (fun ls hl => ?_)
        refine lv_iload_n hx hb dX2_compareStrung_88 rfl (lv_at hl 0 rfl) ?_
        subst ex7 ex6 ex4 ex1
        exact rt_I hx hb hr hlk hK hP hD hS ⟨Eq.symm (Eq.trans (if_pos c_23) (Eq.trans (if_pos c_49) (Eq.trans (if_pos c_69) (rfl)))), rfl⟩ dX2_compareStrung_89

def f_X2_isAhead (s : SB) (t : Int32) (u : Int32) : Int32 := if ((gB_Z s) t.toNatClampNeg) = ((gB_Z s) u.toNatClampNeg) then (if ((gB_Z s) t.toNatClampNeg) = 0 then (let x1 := f_X2_compareStrung s t u; if x1 = 0 then (if u ≤ t then (0) else (1)) else (if 0 ≤ x1 then (0) else (1))) else (if u ≤ t then (0) else (1))) else ((gB_Z s) u.toNatClampNeg)
set_option maxHeartbeats 4000000 in
set_option maxRecDepth 100000 in
theorem c_X2_isAhead (l : Launch) (D : va_G) (K : ClassId × ClassId × ClassId) (a : Nat → Nat) (s : SB) (t : Int32) (u : Int32) (h_t : vp_in t 8) (h_u : vp_in u 8) (hZ : ∀ k : Nat, narrow .boolean (.int (gB_Z s k)) = .int (gB_Z s k)) : MetI l yX2_isAhead wsX2_isAhead { frames := 2, cells := 0, slots := 0, locals := 46 } D vwCl (tyK K) (wB K a) [.ref (a 0), .int t, .int u] s (f_X2_isAhead s t u) s := by
  intro sz0
  refine en_W (cc := cX2_isAhead) (maxL := 4) (ret := (some .boolean)) (Qc := fun A => va_Qi (fun (x0 : Int32) (u0 : SB) => x0 = f_X2_isAhead s t u ∧ u0 = s) (bs_a D vwCl (tyK K) (wB K a) A) A) (by decide) rfl (Nat.le_of_ble_eq_true rfl) ?_ sz0
  intro p e st m below meth c ls A hx hb hr hml hts hown hlk hA hK hP hD hS hl
  have hown : st.vm.findClass RX2 = some m.cls := hown
  have hl : lv_has ls 4 [(0, .ref (a 0)), (1, .int t), (2, .int u)] := hl
  have hinX2 : ∀ w ∈ u_ws RX2 TX2 15, w ∈ wsX2_isAhead := fun w h => List.mem_cons_of_mem _ (List.mem_append_right _ h)
  have k29 := hts (.fieldLink RX2 29 "PuppetBar" "isCut" "[Z") (by decide +kernel)
  refine lv_aload_n hx hb dX2_isAhead_0 rfl (lv_at hl 0 rfl) ?_
  refine va_get (D := D) (ci := 1) (C := RX2) (T := TX2) (N := 15) hx hb hts hinX2 hown hK hP 0 rfl rfl 6 (by decide) k29 (fun _ h9 => h9) rfl dX2_isAhead_1 ?_
  refine lv_iload_n hx hb dX2_isAhead_4 rfl (lv_at hl 1 rfl) ?_
  refine va_zald hx hb hK hP 7 2 rfl rfl h_t dX2_isAhead_5 ?_
  refine lv_aload_n hx hb dX2_isAhead_6 rfl (lv_at hl 0 rfl) ?_
  refine va_get (D := D) (ci := 1) (C := RX2) (T := TX2) (N := 15) hx hb hts hinX2 hown hK hP 0 rfl rfl 6 (by decide) k29 (fun _ h9 => h9) rfl dX2_isAhead_7 ?_
  refine lv_iload_n hx hb dX2_isAhead_10 rfl (lv_at hl 2 rfl) ?_
  refine va_zald hx hb hK hP 7 2 rfl rfl h_u dX2_isAhead_11 ?_
  refine lv_icmp_eq (tgt := 22) hx hb dX2_isAhead_12 (by decide) (fun c_12 => ?_) (fun c_12 => ?_)
  · refine lv_aload_n hx hb dX2_isAhead_22 rfl (lv_at hl 0 rfl) ?_
    refine va_get (D := D) (ci := 1) (C := RX2) (T := TX2) (N := 15) hx hb hts hinX2 hown hK hP 0 rfl rfl 6 (by decide) k29 (fun _ h9 => h9) rfl dX2_isAhead_23 ?_
    refine lv_iload_n hx hb dX2_isAhead_26 rfl (lv_at hl 1 rfl) ?_
    refine va_zald hx hb hK hP 7 2 rfl rfl h_t dX2_isAhead_27 ?_
    refine lv_if_eq (tgt := 35) hx hb dX2_isAhead_28 (by decide) (fun c_28 => ?_) (fun c_28 => ?_)
    · refine lv_aload_n hx hb dX2_isAhead_35 rfl (lv_at hl 0 rfl) ?_
      refine lv_iload_n hx hb dX2_isAhead_36 rfl (lv_at hl 1 rfl) ?_
      refine lv_iload_n hx hb dX2_isAhead_37 rfl (lv_at hl 2 rfl) ?_
      refine cl_I (c_X2_compareStrung l D K a _ _ _ h_t h_u) ⟨hx, hb, hml, hown, hts⟩ (cwV 2 hts gX2_isAhead_X2_compareStrung rfl rfl rfl (by decide +kernel) ⟨Nat.le_of_ble_eq_true rfl, Nat.le_of_ble_eq_true rfl⟩) hK hP hD hS hA rfl rfl rfl rfl hl.1 rfl (Nat.le_of_ble_eq_true rfl) (Nat.zero_le _) (Nat.zero_le _) dX2_isAhead_38 (fun H locs hP hD hS => ?_)
      refine tpi (fun x1 ex1 => ?_)
      refine lv_istore_n (lv' := [(3, .int x1), (0, .ref (a 0)), (1, .int t), (2, .int u)]) hx hb dX2_isAhead_41 rfl hl (by decide) rfl (fun ls hl => ?_)
      refine lv_iload_n hx hb dX2_isAhead_42 rfl (lv_at hl 0 rfl) ?_
      refine lv_if_ne (tgt := 59) hx hb dX2_isAhead_43 (by decide) (fun c_43 => ?_) (fun c_43 => ?_)
      · refine lv_iload_n hx hb dX2_isAhead_59 rfl (lv_at hl 0 rfl) ?_
        refine lv_if_ge (tgt := 67) hx hb dX2_isAhead_60 (by decide) (fun c_60 => ?_) (fun c_60 => ?_)
        · refine lv_iconst (v := 0) hx hb dX2_isAhead_67 (by decide) ?_
          subst ex1
          exact rt_Z hx hb hr hlk hK hP hD hS rfl ⟨Eq.symm (Eq.trans (if_pos c_12) (Eq.trans (if_pos c_28) (Eq.trans (if_neg c_43) (Eq.trans (if_pos c_60) (rfl))))), rfl⟩ dX2_isAhead_68
        · refine lv_iconst (v := 1) hx hb dX2_isAhead_63 (by decide) ?_
          refine lv_goto (tgt := 68) hx hb dX2_isAhead_64 (by decide) ?_
          subst ex1
          exact rt_Z hx hb hr hlk hK hP hD hS rfl ⟨Eq.symm (Eq.trans (if_pos c_12) (Eq.trans (if_pos c_28) (Eq.trans (if_neg c_43) (Eq.trans (if_neg c_60) (rfl))))), rfl⟩ dX2_isAhead_68
      · refine lv_iload_n hx hb dX2_isAhead_46 rfl (lv_at hl 2 rfl) ?_
        refine lv_iload_n hx hb dX2_isAhead_47 rfl (lv_at hl 3 rfl) ?_
        refine lv_icmp_ge (tgt := 55) hx hb dX2_isAhead_48 (by decide) (fun c_48 => ?_) (fun c_48 => ?_)
        · refine lv_iconst (v := 0) hx hb dX2_isAhead_55 (by decide) ?_
          refine lv_goto (tgt := 68) hx hb dX2_isAhead_56 (by decide) ?_
          subst ex1
          exact rt_Z hx hb hr hlk hK hP hD hS rfl ⟨Eq.symm (Eq.trans (if_pos c_12) (Eq.trans (if_pos c_28) (Eq.trans (if_pos c_43) (Eq.trans (if_pos c_48) (rfl))))), rfl⟩ dX2_isAhead_68
        · refine lv_iconst (v := 1) hx hb dX2_isAhead_51 (by decide) ?_
          refine lv_goto (tgt := 68) hx hb dX2_isAhead_52 (by decide) ?_
          subst ex1
          exact rt_Z hx hb hr hlk hK hP hD hS rfl ⟨Eq.symm (Eq.trans (if_pos c_12) (Eq.trans (if_pos c_28) (Eq.trans (if_pos c_43) (Eq.trans (if_neg c_48) (rfl))))), rfl⟩ dX2_isAhead_68
    · refine lv_iconst (v := 0) hx hb dX2_isAhead_31 (by decide) ?_
      refine lv_goto (tgt := 41) hx hb dX2_isAhead_32 (by decide) ?_
      refine lv_istore_n (lv' := [(3, .int 0), (0, .ref (a 0)), (1, .int t), (2, .int u)]) hx hb dX2_isAhead_41 rfl hl (by decide) rfl (fun ls hl => ?_)
      refine lv_iload_n hx hb dX2_isAhead_42 rfl (lv_at hl 0 rfl) ?_
      refine lv_if_ne (tgt := 59) hx hb dX2_isAhead_43 (by decide) (fun c2 => absurd (show (0 : Int32) = (0 : Int32) by decide) (show ¬ (0 : Int32) = (0 : Int32) from c2)) (fun c2 => ?_)
      refine lv_iload_n hx hb dX2_isAhead_46 rfl (lv_at hl 2 rfl) ?_
      refine lv_iload_n hx hb dX2_isAhead_47 rfl (lv_at hl 3 rfl) ?_
      refine lv_icmp_ge (tgt := 55) hx hb dX2_isAhead_48 (by decide) (fun c_48 => ?_) (fun c_48 => ?_)
      · refine lv_iconst (v := 0) hx hb dX2_isAhead_55 (by decide) ?_
        refine lv_goto (tgt := 68) hx hb dX2_isAhead_56 (by decide) ?_
        exact rt_Z hx hb hr hlk hK hP hD hS rfl ⟨Eq.symm (Eq.trans (if_pos c_12) (Eq.trans (if_neg c_28) (Eq.trans (if_pos c_48) (rfl)))), rfl⟩ dX2_isAhead_68
      · refine lv_iconst (v := 1) hx hb dX2_isAhead_51 (by decide) ?_
        refine lv_goto (tgt := 68) hx hb dX2_isAhead_52 (by decide) ?_
        exact rt_Z hx hb hr hlk hK hP hD hS rfl ⟨Eq.symm (Eq.trans (if_pos c_12) (Eq.trans (if_neg c_28) (Eq.trans (if_neg c_48) (rfl)))), rfl⟩ dX2_isAhead_68
  · refine lv_aload_n hx hb dX2_isAhead_15 rfl (lv_at hl 0 rfl) ?_
    refine va_get (D := D) (ci := 1) (C := RX2) (T := TX2) (N := 15) hx hb hts hinX2 hown hK hP 0 rfl rfl 6 (by decide) k29 (fun _ h9 => h9) rfl dX2_isAhead_16 ?_
    refine lv_iload_n hx hb dX2_isAhead_19 rfl (lv_at hl 2 rfl) ?_
    refine va_zald hx hb hK hP 7 2 rfl rfl h_u dX2_isAhead_20 ?_
    exact rt_Z hx hb hr hlk hK hP hD hS (hZ _) ⟨Eq.symm (Eq.trans (if_neg c_12) (rfl)), rfl⟩ dX2_isAhead_21

def f_X2_placeOf_b (s : SB) (t : Int32) (y2 : Int32) (y3 : Int32) : (Int32 × Int32) ⊕ (Int32) := if 8 ≤ y3 then (.inr (y2)) else (if (f_X2_isAhead s y3 t) = 0 then (let x1 := y3 + 1; .inl (y2, x1)) else (let x2 := y2 + 1; let x3 := y3 + 1; .inl (x2, x3)))
def f_X2_placeOf (s : SB) (t : Int32) : Int32 := lp (fun x : Int32 × Int32 => f_X2_placeOf_b s t x.1 x.2) (0 : Int32) 9 (0, 0)
set_option maxHeartbeats 4000000 in
set_option maxRecDepth 100000 in
theorem c_X2_placeOf (l : Launch) (D : va_G) (K : ClassId × ClassId × ClassId) (a : Nat → Nat) (s : SB) (t : Int32) (h_t : vp_in t 8) (hZ : ∀ k : Nat, narrow .boolean (.int (gB_Z s k)) = .int (gB_Z s k)) : MetI l yX2_placeOf wsX2_placeOf { frames := 3, cells := 0, slots := 0, locals := 69 } D vwCl (tyK K) (wB K a) [.ref (a 0), .int t] s (f_X2_placeOf s t) s := by
  intro sz0
  refine en_W (cc := cX2_placeOf) (maxL := 4) (ret := (some .int)) (Qc := fun A => va_Qi (fun (x0 : Int32) (u0 : SB) => x0 = f_X2_placeOf s t ∧ u0 = s) (bs_a D vwCl (tyK K) (wB K a) A) A) (by decide) rfl (Nat.le_of_ble_eq_true rfl) ?_ sz0
  intro p e st m below meth c ls A hx hb hr hml hts hown hlk hA hK hP hD hS hl
  have hown : st.vm.findClass RX2 = some m.cls := hown
  have hl : lv_has ls 4 [(0, .ref (a 0)), (1, .int t)] := hl
  have loop : ∀ (fu : Nat) (j : Nat) (y2 : Int32) (y3 : Int32) (H : Heap) (locs : List Loc) (ls : Array Slot), y3 = nI j → j + fu = 9 → j ≤ 8 → lp (fun x : Int32 × Int32 => f_X2_placeOf_b s t x.1 x.2) (0 : Int32) fu (y2, y3) = f_X2_placeOf s t → va_P D vwCl (wB K a s) H → va_D A (wB K a s) → va_S A st.heap H locs → lv_has ls 4 [(0, .ref (a 0)), (1, .int t), (2, .int y2), (3, .int y3)] → W p l e { frames := 3, cells := 0, slots := 0, locals := 69 } st m ([.ref (a 0), .int t] : List Value).toArray below meth c H locs 0 0 (MQ below (va_Qi (fun (x0 : Int32) (u0 : SB) => x0 = f_X2_placeOf s t ∧ u0 = s) (bs_a D vwCl (tyK K) (wB K a) A) A) ([.ref (a 0), .int t] : List Value).toArray st 0 0 A) (F0 m 4 ls []) := by
    intro fu
    induction fu with
    | zero =>
      intro j y2 y3 H locs ls hj hn h8 hF hP hD hS hl
      exfalso; omega
    | succ fu ih =>
      intro j y2 y3 H locs ls hj hn h8 hF hP hD hS hl
      have hy : ¬ 8 ≤ y3 → vp_in y3 8 := fun h => in_of (by rw [hj]; exact nI_pos (by omega)) h rfl (by decide)
      refine lv_iload_n hx hb dX2_placeOf_4 rfl (lv_at hl 3 rfl) ?_
      refine lv_bipush (v := 8) hx hb dX2_placeOf_5 (by decide) ?_
      refine lv_icmp_ge (tgt := 28) hx hb dX2_placeOf_7 (by decide) (fun c_7 => ?_) (fun c_7 => ?_)
      · refine lv_iload_n hx hb dX2_placeOf_28 rfl (lv_at hl 2 rfl) ?_
        exact rt_I hx hb hr hlk hK hP hD hS ⟨lpr hF (Eq.trans (if_pos c_7) (rfl)), rfl⟩ dX2_placeOf_29
      · refine lv_aload_n hx hb dX2_placeOf_10 rfl (lv_at hl 0 rfl) ?_
        refine lv_iload_n hx hb dX2_placeOf_11 rfl (lv_at hl 3 rfl) ?_
        refine lv_iload_n hx hb dX2_placeOf_12 rfl (lv_at hl 1 rfl) ?_
        refine cl_I (c_X2_isAhead l D K a _ _ _ (hy c_7) h_t hZ) ⟨hx, hb, hml, hown, hts⟩ (cwV 2 hts gX2_placeOf_X2_isAhead rfl rfl rfl (by decide +kernel) ⟨Nat.le_of_ble_eq_true rfl, Nat.le_of_ble_eq_true rfl⟩) hK hP hD hS hA rfl rfl rfl rfl hl.1 rfl (Nat.le_of_ble_eq_true rfl) (Nat.zero_le _) (Nat.zero_le _) dX2_placeOf_13 (fun H locs hP hD hS => ?_)
        refine lv_if_eq (tgt := 22) hx hb dX2_placeOf_16 (by decide) (fun c_16 => ?_) (fun c_16 => ?_)
        · obtain ⟨x1, ex1⟩ : ∃ yy : Int32, y3 + 1 = yy := ⟨_, rfl⟩
          refine lv_iinc (v := x1) (lv' := [(3, .int x1), (0, .ref (a 0)), (1, .int t), (2, .int y2)]) hx hb dX2_placeOf_22 hl (k := 3) rfl (by rw [← ex1]; rfl) (by decide) rfl (fun ls hl => ?_)
          refine lv_goto (tgt := 4) hx hb dX2_placeOf_25 (by decide) ?_
          subst ex1
          exact ih (j + 1) _ _ _ _ _ (by rw [hj]; exact nI_1 j) (by omega) (by rcases nle_lt c_7 hj (N := 8) rfl (by decide) with h | h <;> omega) (lpl hF (Eq.trans (if_neg c_7) (Eq.trans (if_pos c_16) (rfl)))) hP hD hS (lv_sub hl [1, 2, 3, 0] rfl)
        · obtain ⟨x2, ex2⟩ : ∃ yy : Int32, y2 + 1 = yy := ⟨_, rfl⟩
          refine lv_iinc (v := x2) (lv' := [(2, .int x2), (0, .ref (a 0)), (1, .int t), (3, .int y3)]) hx hb dX2_placeOf_19 hl (k := 2) rfl (by rw [← ex2]; rfl) (by decide) rfl (fun ls hl => ?_)
          obtain ⟨x3, ex3⟩ : ∃ yy : Int32, y3 + 1 = yy := ⟨_, rfl⟩
          refine lv_iinc (v := x3) (lv' := [(3, .int x3), (2, .int x2), (0, .ref (a 0)), (1, .int t)]) hx hb dX2_placeOf_22 hl (k := 3) rfl (by rw [← ex3]; rfl) (by decide) rfl (fun ls hl => ?_)
          refine lv_goto (tgt := 4) hx hb dX2_placeOf_25 (by decide) ?_
          subst ex3 ex2
          exact ih (j + 1) _ _ _ _ _ (by rw [hj]; exact nI_1 j) (by omega) (by rcases nle_lt c_7 hj (N := 8) rfl (by decide) with h | h <;> omega) (lpl hF (Eq.trans (if_neg c_7) (Eq.trans (if_neg c_16) (rfl)))) hP hD hS (lv_sub hl [2, 3, 1, 0] rfl)
  refine lv_iconst (v := 0) hx hb dX2_placeOf_0 (by decide) ?_
  refine lv_istore_n (lv' := [(2, .int 0), (0, .ref (a 0)), (1, .int t)]) hx hb dX2_placeOf_1 rfl hl (by decide) rfl (fun ls hl => ?_)
  refine lv_iconst (v := 0) hx hb dX2_placeOf_2 (by decide) ?_
  refine lv_istore_n (lv' := [(3, .int 0), (2, .int 0), (0, .ref (a 0)), (1, .int t)]) hx hb dX2_placeOf_3 rfl hl (by decide) rfl (fun ls hl => ?_)
  exact loop 9 (0) _ _ _ _ _ (nI_0.symm) (rfl) (by decide) (Eq.symm (rfl)) hP hD hS (lv_sub hl [2, 3, 1, 0] rfl)

def f_X2_order_b (s : SB) (k : Int32) (y2 : Int32) : (Int32) ⊕ (Int32) := if 8 ≤ y2 then (.inr ((-1))) else (if (f_X2_placeOf s y2) = k then (.inr (y2)) else (let x1 := y2 + 1; .inl (x1)))
def f_X2_order (s : SB) (k : Int32) : Int32 := lp (fun x : Int32 => f_X2_order_b s k x) (0 : Int32) 9 (0)
set_option maxHeartbeats 4000000 in
set_option maxRecDepth 100000 in
theorem c_X2_order (l : Launch) (D : va_G) (K : ClassId × ClassId × ClassId) (a : Nat → Nat) (s : SB) (k : Int32)  (hZ : ∀ k : Nat, narrow .boolean (.int (gB_Z s k)) = .int (gB_Z s k)) : MetI l yX2_order wsX2_order { frames := 4, cells := 0, slots := 0, locals := 92 } D vwCl (tyK K) (wB K a) [.ref (a 0), .int k] s (f_X2_order s k) s := by
  intro sz0
  refine en_W (cc := cX2_order) (maxL := 3) (ret := (some .int)) (Qc := fun A => va_Qi (fun (x0 : Int32) (u0 : SB) => x0 = f_X2_order s k ∧ u0 = s) (bs_a D vwCl (tyK K) (wB K a) A) A) (by decide) rfl (Nat.le_of_ble_eq_true rfl) ?_ sz0
  intro p e st m below meth c ls A hx hb hr hml hts hown hlk hA hK hP hD hS hl
  have hown : st.vm.findClass RX2 = some m.cls := hown
  have hl : lv_has ls 3 [(0, .ref (a 0)), (1, .int k)] := hl
  have loop : ∀ (fu : Nat) (j : Nat) (y2 : Int32) (H : Heap) (locs : List Loc) (ls : Array Slot), y2 = nI j → j + fu = 9 → j ≤ 8 → lp (fun x : Int32 => f_X2_order_b s k x) (0 : Int32) fu (y2) = f_X2_order s k → va_P D vwCl (wB K a s) H → va_D A (wB K a s) → va_S A st.heap H locs → lv_has ls 3 [(0, .ref (a 0)), (1, .int k), (2, .int y2)] → W p l e { frames := 4, cells := 0, slots := 0, locals := 92 } st m ([.ref (a 0), .int k] : List Value).toArray below meth c H locs 0 0 (MQ below (va_Qi (fun (x0 : Int32) (u0 : SB) => x0 = f_X2_order s k ∧ u0 = s) (bs_a D vwCl (tyK K) (wB K a) A) A) ([.ref (a 0), .int k] : List Value).toArray st 0 0 A) (F0 m 2 ls []) := by
    intro fu
    induction fu with
    | zero =>
      intro j y2 H locs ls hj hn h8 hF hP hD hS hl
      exfalso; omega
    | succ fu ih =>
      intro j y2 H locs ls hj hn h8 hF hP hD hS hl
      have hy : ¬ 8 ≤ y2 → vp_in y2 8 := fun h => in_of (by rw [hj]; exact nI_pos (by omega)) h rfl (by decide)
      refine lv_iload_n hx hb dX2_order_2 rfl (lv_at hl 2 rfl) ?_
      refine lv_bipush (v := 8) hx hb dX2_order_3 (by decide) ?_
      refine lv_icmp_ge (tgt := 25) hx hb dX2_order_5 (by decide) (fun c_5 => ?_) (fun c_5 => ?_)
      · refine lv_iconst (v := (-1)) hx hb dX2_order_25 (by decide) ?_
        exact rt_I hx hb hr hlk hK hP hD hS ⟨lpr hF (Eq.trans (if_pos c_5) (rfl)), rfl⟩ dX2_order_26
      · refine lv_aload_n hx hb dX2_order_8 rfl (lv_at hl 0 rfl) ?_
        refine lv_iload_n hx hb dX2_order_9 rfl (lv_at hl 2 rfl) ?_
        refine cl_I (c_X2_placeOf l D K a _ _ (hy c_5) hZ) ⟨hx, hb, hml, hown, hts⟩ (cwV 1 hts gX2_order_X2_placeOf rfl rfl rfl (by decide +kernel) ⟨Nat.le_of_ble_eq_true rfl, Nat.le_of_ble_eq_true rfl⟩) hK hP hD hS hA rfl rfl rfl rfl hl.1 rfl (Nat.le_of_ble_eq_true rfl) (Nat.zero_le _) (Nat.zero_le _) dX2_order_10 (fun H locs hP hD hS => ?_)
        refine lv_iload_n hx hb dX2_order_13 rfl (lv_at hl 1 rfl) ?_
        refine lv_icmp_ne (tgt := 19) hx hb dX2_order_14 (by decide) (fun c_14 => ?_) (fun c_14 => ?_)
        · obtain ⟨x1, ex1⟩ : ∃ yy : Int32, y2 + 1 = yy := ⟨_, rfl⟩
          refine lv_iinc (v := x1) (lv' := [(2, .int x1), (0, .ref (a 0)), (1, .int k)]) hx hb dX2_order_19 hl (k := 2) rfl (by rw [← ex1]; rfl) (by decide) rfl (fun ls hl => ?_)
          refine lv_goto (tgt := 2) hx hb dX2_order_22 (by decide) ?_
          subst ex1
          exact ih (j + 1) _ _ _ _ (by rw [hj]; exact nI_1 j) (by omega) (by rcases nle_lt c_5 hj (N := 8) rfl (by decide) with h | h <;> omega) (lpl hF (Eq.trans (if_neg c_5) (Eq.trans (if_neg c_14) (rfl)))) hP hD hS (lv_sub hl [1, 2, 0] rfl)
        · refine lv_iload_n hx hb dX2_order_17 rfl (lv_at hl 2 rfl) ?_
          exact rt_I hx hb hr hlk hK hP hD hS ⟨lpr hF (Eq.trans (if_neg c_5) (Eq.trans (if_pos c_14) (rfl))), rfl⟩ dX2_order_18
  refine lv_iconst (v := 0) hx hb dX2_order_0 (by decide) ?_
  refine lv_istore_n (lv' := [(2, .int 0), (0, .ref (a 0)), (1, .int k)]) hx hb dX2_order_1 rfl hl (by decide) rfl (fun ls hl => ?_)
  exact loop 9 (0) _ _ _ _ (nI_0.symm) (rfl) (by decide) (Eq.symm (rfl)) hP hD hS (lv_sub hl [1, 2, 0] rfl)
