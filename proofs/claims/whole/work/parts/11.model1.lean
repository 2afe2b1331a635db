def f_X3_begin (s : SM) (t : Int32) : SM := pM_HI (pM_LO (pM_T (pM_K (pM_P (pM_L (pM_Z s (upd (gM_Z s) t.toNatClampNeg (vp_nar .boolean 0))) (vp_updL (gM_L s) t.toNatClampNeg 0)) (upd (gM_P s) t.toNatClampNeg 0)) (upd (gM_K s) t.toNatClampNeg 0)) (vp_updL (gM_T s) t.toNatClampNeg 0)) (vp_updL (gM_LO s) t.toNatClampNeg ((f_X3_endless 52) ||| (f_X3_sign 52)))) (vp_updL (gM_HI s) t.toNatClampNeg (f_X3_endless 52))
set_option maxHeartbeats 4000000 in
set_option maxRecDepth 100000 in
theorem c_X3_begin (l : Launch) (D : va_G) (K : ClassId × ClassId × ClassId) (a : Nat → Nat) (s : SM) (t : Int32) (h_t : vp_in t 8)  : MetV l yX3_begin wsX3_begin { frames := 2, cells := 0, slots := 0, locals := 40 } D vwCl (tyK K) (wM K a) [.ref (a 0), .int t] s (f_X3_begin s t) := by
  intro sz0
  refine en_W (cc := cX3_begin) (maxL := 2) (ret := none) (Qc := fun A => va_Qv (fun u0 : SM => u0 = f_X3_begin s t) (bs_a D vwCl (tyK K) (wM K a) A) A) (by decide) rfl (Nat.le_of_ble_eq_true rfl) ?_ sz0
  intro p e st m below meth c ls A hx hb hr hml hts hown hlk hA hK hP hD hS hl
  have hown : st.vm.findClass RX3 = some m.cls := hown
  have hl : lv_has ls 2 [(0, .ref (a 0)), (1, .int t)] := hl
  have hinX3 : ∀ w ∈ u_ws RX3 TX3 21, w ∈ wsX3_begin := fun w h => List.mem_cons_of_mem _ (List.mem_append_right _ h)
  have k7 := hts (.fieldLink RX3 7 "PuppetBarModel" "isCut" "[Z") (by decide +kernel)
  have k13 := hts (.fieldLink RX3 13 "PuppetBarModel" "length" "[J") (by decide +kernel)
  have k17 := hts (.fieldLink RX3 17 "PuppetBarModel" "pull" "[I") (by decide +kernel)
  have k21 := hts (.fieldLink RX3 21 "PuppetBarModel" "knots" "[I") (by decide +kernel)
  have k24 := hts (.fieldLink RX3 24 "PuppetBarModel" "twist" "[J") (by decide +kernel)
  have k27 := hts (.fieldLink RX3 27 "PuppetBarModel" "low" "[J") (by decide +kernel)
  have k30 := hts (.fieldLink RX3 30 "PuppetBarModel" "high" "[J") (by decide +kernel)
  refine lv_aload_n hx hb dX3_begin_0 rfl (lv_at hl 0 rfl) ?_
  refine va_get (D := D) (ci := 2) (C := RX3) (T := TX3) (N := 21) hx hb hts hinX3 hown hK hP 0 rfl rfl 0 (by decide) k7 (fun _ h9 => h9) rfl dX3_begin_1 ?_
  refine lv_iload_n hx hb dX3_begin_4 rfl (lv_at hl 1 rfl) ?_
  refine lv_iconst (v := 0) hx hb dX3_begin_5 (by decide) ?_
  refine va_zast hx hb hK hP hD hS 1 2 rfl rfl h_t dX3_begin_6 (fun H locs hP hD hS => ?_)
  have hP : va_P D vwCl (wM K a (pM_Z s (upd (gM_Z s) t.toNatClampNeg (vp_nar .boolean 0)))) H := hP
  have hD : va_D A (wM K a (pM_Z s (upd (gM_Z s) t.toNatClampNeg (vp_nar .boolean 0)))) := hD
  refine lv_aload_n hx hb dX3_begin_7 rfl (lv_at hl 0 rfl) ?_
  refine va_get (D := D) (ci := 2) (C := RX3) (T := TX3) (N := 21) hx hb hts hinX3 hown hK hP 0 rfl rfl 1 (by decide) k13 (fun _ h9 => h9) rfl dX3_begin_8 ?_
  refine lv_iload_n hx hb dX3_begin_11 rfl (lv_at hl 1 rfl) ?_
  refine lv_lconst (v := 0) hx hb dX3_begin_12 (by decide) ?_
  refine va_last hx hb hK hP hD hS 2 1 rfl rfl h_t dX3_begin_13 (fun H locs hP hD hS => ?_)
  have hP : va_P D vwCl (wM K a (pM_L (pM_Z s (upd (gM_Z s) t.toNatClampNeg (vp_nar .boolean 0))) (vp_updL (gM_L s) t.toNatClampNeg 0))) H := hP
  have hD : va_D A (wM K a (pM_L (pM_Z s (upd (gM_Z s) t.toNatClampNeg (vp_nar .boolean 0))) (vp_updL (gM_L s) t.toNatClampNeg 0))) := hD
  refine lv_aload_n hx hb dX3_begin_14 rfl (lv_at hl 0 rfl) ?_
  refine va_get (D := D) (ci := 2) (C := RX3) (T := TX3) (N := 21) hx hb hts hinX3 hown hK hP 0 rfl rfl 2 (by decide) k17 (fun _ h9 => h9) rfl dX3_begin_15 ?_
  refine lv_iload_n hx hb dX3_begin_18 rfl (lv_at hl 1 rfl) ?_
  refine lv_iconst (v := 0) hx hb dX3_begin_19 (by decide) ?_
  refine va_iast hx hb hK hP hD hS 3 0 rfl rfl h_t dX3_begin_20 (fun H locs hP hD hS => ?_)
  have hP : va_P D vwCl (wM K a (pM_P (pM_L (pM_Z s (upd (gM_Z s) t.toNatClampNeg (vp_nar .boolean 0))) (vp_updL (gM_L s) t.toNatClampNeg 0)) (upd (gM_P s) t.toNatClampNeg 0))) H := hP
  have hD : va_D A (wM K a (pM_P (pM_L (pM_Z s (upd (gM_Z s) t.toNatClampNeg (vp_nar .boolean 0))) (vp_updL (gM_L s) t.toNatClampNeg 0)) (upd (gM_P s) t.toNatClampNeg 0))) := hD
  refine lv_aload_n hx hb dX3_begin_21 rfl (lv_at hl 0 rfl) ?_
  refine va_get (D := D) (ci := 2) (C := RX3) (T := TX3) (N := 21) hx hb hts hinX3 hown hK hP 0 rfl rfl 3 (by decide) k21 (fun _ h9 => h9) rfl dX3_begin_22 ?_
  refine lv_iload_n hx hb dX3_begin_25 rfl (lv_at hl 1 rfl) ?_
  refine lv_iconst (v := 0) hx hb dX3_begin_26 (by decide) ?_
  refine va_iast hx hb hK hP hD hS 4 0 rfl rfl h_t dX3_begin_27 (fun H locs hP hD hS => ?_)
  have hP : va_P D vwCl (wM K a (pM_K (pM_P (pM_L (pM_Z s (upd (gM_Z s) t.toNatClampNeg (vp_nar .boolean 0))) (vp_updL (gM_L s) t.toNatClampNeg 0)) (upd (gM_P s) t.toNatClampNeg 0)) (upd (gM_K s) t.toNatClampNeg 0))) H := hP
  have hD : va_D A (wM K a (pM_K (pM_P (pM_L (pM_Z s (upd (gM_Z s) t.toNatClampNeg (vp_nar .boolean 0))) (vp_updL (gM_L s) t.toNatClampNeg 0)) (upd (gM_P s) t.toNatClampNeg 0)) (upd (gM_K s) t.toNatClampNeg 0))) := hD
  refine lv_aload_n hx hb dX3_begin_28 rfl (lv_at hl 0 rfl) ?_
  refine va_get (D := D) (ci := 2) (C := RX3) (T := TX3) (N := 21) hx hb hts hinX3 hown hK hP 0 rfl rfl 4 (by decide) k24 (fun _ h9 => h9) rfl dX3_begin_29 ?_
  refine lv_iload_n hx hb dX3_begin_32 rfl (lv_at hl 1 rfl) ?_
  refine lv_lconst (v := 0) hx hb dX3_begin_33 (by decide) ?_
  refine va_last hx hb hK hP hD hS 5 1 rfl rfl h_t dX3_begin_34 (fun H locs hP hD hS => ?_)
  have hP : va_P D vwCl (wM K a (pM_T (pM_K (pM_P (pM_L (pM_Z s (upd (gM_Z s) t.toNatClampNeg (vp_nar .boolean 0))) (vp_updL (gM_L s) t.toNatClampNeg 0)) (upd (gM_P s) t.toNatClampNeg 0)) (upd (gM_K s) t.toNatClampNeg 0)) (vp_updL (gM_T s) t.toNatClampNeg 0))) H := hP
  have hD : va_D A (wM K a (pM_T (pM_K (pM_P (pM_L (pM_Z s (upd (gM_Z s) t.toNatClampNeg (vp_nar .boolean 0))) (vp_updL (gM_L s) t.toNatClampNeg 0)) (upd (gM_P s) t.toNatClampNeg 0)) (upd (gM_K s) t.toNatClampNeg 0)) (vp_updL (gM_T s) t.toNatClampNeg 0))) := hD
  refine lv_aload_n hx hb dX3_begin_35 rfl (lv_at hl 0 rfl) ?_
  refine va_get (D := D) (ci := 2) (C := RX3) (T := TX3) (N := 21) hx hb hts hinX3 hown hK hP 0 rfl rfl 5 (by decide) k27 (fun _ h9 => h9) rfl dX3_begin_36 ?_
  refine lv_iload_n hx hb dX3_begin_39 rfl (lv_at hl 1 rfl) ?_
  refine lv_bipush (v := 52) hx hb dX3_begin_40 (by decide) ?_
  refine cl_Pl (c_X3_endless l _) ⟨hx, hb, hml, hown, hts⟩ (va_cwS 1 hts gX3_begin_X3_endless rfl rfl rfl (by decide +kernel) ⟨Nat.le_of_ble_eq_true rfl, Nat.le_of_ble_eq_true rfl⟩) rfl hl.1 rfl (Nat.le_of_ble_eq_true rfl) (Nat.zero_le _) (Nat.zero_le _) dX3_begin_42 ?_
  refine lv_bipush (v := 52) hx hb dX3_begin_45 (by decide) ?_
  refine cl_Pl (c_X3_sign l _) ⟨hx, hb, hml, hown, hts⟩ (va_cwS 1 hts gX3_begin_X3_sign rfl rfl rfl (by decide +kernel) ⟨Nat.le_of_ble_eq_true rfl, Nat.le_of_ble_eq_true rfl⟩) rfl hl.1 rfl (Nat.le_of_ble_eq_true rfl) (Nat.zero_le _) (Nat.zero_le _) dX3_begin_47 ?_
  refine lv_lor hx hb dX3_begin_50 ?_
  refine va_last hx hb hK hP hD hS 6 1 rfl rfl h_t dX3_begin_51 (fun H locs hP hD hS => ?_)
  have hP : va_P D vwCl (wM K a (pM_LO (pM_T (pM_K (pM_P (pM_L (pM_Z s (upd (gM_Z s) t.toNatClampNeg (vp_nar .boolean 0))) (vp_updL (gM_L s) t.toNatClampNeg 0)) (upd (gM_P s) t.toNatClampNeg 0)) (upd (gM_K s) t.toNatClampNeg 0)) (vp_updL (gM_T s) t.toNatClampNeg 0)) (vp_updL (gM_LO s) t.toNatClampNeg ((f_X3_endless 52) ||| (f_X3_sign 52))))) H := hP
  have hD : va_D A (wM K a (pM_LO (pM_T (pM_K (pM_P (pM_L (pM_Z s (upd (gM_Z s) t.toNatClampNeg (vp_nar .boolean 0))) (vp_updL (gM_L s) t.toNatClampNeg 0)) (upd (gM_P s) t.toNatClampNeg 0)) (upd (gM_K s) t.toNatClampNeg 0)) (vp_updL (gM_T s) t.toNatClampNeg 0)) (vp_updL (gM_LO s) t.toNatClampNeg ((f_X3_endless 52) ||| (f_X3_sign 52))))) := hD
  refine lv_aload_n hx hb dX3_begin_52 rfl (lv_at hl 0 rfl) ?_
  refine va_get (D := D) (ci := 2) (C := RX3) (T := TX3) (N := 21) hx hb hts hinX3 hown hK hP 0 rfl rfl 6 (by decide) k30 (fun _ h9 => h9) rfl dX3_begin_53 ?_
  refine lv_iload_n hx hb dX3_begin_56 rfl (lv_at hl 1 rfl) ?_
  refine lv_bipush (v := 52) hx hb dX3_begin_57 (by decide) ?_
  refine cl_Pl (c_X3_endless l _) ⟨hx, hb, hml, hown, hts⟩ (va_cwS 1 hts gX3_begin_X3_endless rfl rfl rfl (by decide +kernel) ⟨Nat.le_of_ble_eq_true rfl, Nat.le_of_ble_eq_true rfl⟩) rfl hl.1 rfl (Nat.le_of_ble_eq_true rfl) (Nat.zero_le _) (Nat.zero_le _) dX3_begin_59 ?_
  refine va_last hx hb hK hP hD hS 7 1 rfl rfl h_t dX3_begin_62 (fun H locs hP hD hS => ?_)
  have hP : va_P D vwCl (wM K a (pM_HI (pM_LO (pM_T (pM_K (pM_P (pM_L (pM_Z s (upd (gM_Z s) t.toNatClampNeg (vp_nar .boolean 0))) (vp_updL (gM_L s) t.toNatClampNeg 0)) (upd (gM_P s) t.toNatClampNeg 0)) (upd (gM_K s) t.toNatClampNeg 0)) (vp_updL (gM_T s) t.toNatClampNeg 0)) (vp_updL (gM_LO s) t.toNatClampNeg ((f_X3_endless 52) ||| (f_X3_sign 52)))) (vp_updL (gM_HI s) t.toNatClampNeg (f_X3_endless 52)))) H := hP
  have hD : va_D A (wM K a (pM_HI (pM_LO (pM_T (pM_K (pM_P (pM_L (pM_Z s (upd (gM_Z s) t.toNatClampNeg (vp_nar .boolean 0))) (vp_updL (gM_L s) t.toNatClampNeg 0)) (upd (gM_P s) t.toNatClampNeg 0)) (upd (gM_K s) t.toNatClampNeg 0)) (vp_updL (gM_T s) t.toNatClampNeg 0)) (vp_updL (gM_LO s) t.toNatClampNeg ((f_X3_endless 52) ||| (f_X3_sign 52)))) (vp_updL (gM_HI s) t.toNatClampNeg (f_X3_endless 52)))) := hD
  exact rt_V (s1 := _) hx hb hr hlk hK hP hD hS (Eq.symm (rfl)) dX3_begin_63

def f_X3_lack (s : SM) (t : Int32) : Int32 := if (f_X3_isThread t) = 0 then (1) else (if ((gM_Z s) t.toNatClampNeg) = 0 then (0) else (2))
set_option maxHeartbeats 4000000 in
set_option maxRecDepth 100000 in
theorem c_X3_lack (l : Launch) (D : va_G) (K : ClassId × ClassId × ClassId) (a : Nat → Nat) (s : SM) (t : Int32)   : MetI l yX3_lack wsX3_lack { frames := 1, cells := 0, slots := 0, locals := 20 } D vwCl (tyK K) (wM K a) [.ref (a 0), .int t] s (f_X3_lack s t) s := by
  intro sz0
  refine en_W (cc := cX3_lack) (maxL := 2) (ret := (some .int)) (Qc := fun A => va_Qi (fun (x0 : Int32) (u0 : SM) => x0 = f_X3_lack s t ∧ u0 = s) (bs_a D vwCl (tyK K) (wM K a) A) A) (by decide) rfl (Nat.le_of_ble_eq_true rfl) ?_ sz0
  intro p e st m below meth c ls A hx hb hr hml hts hown hlk hA hK hP hD hS hl
  have hown : st.vm.findClass RX3 = some m.cls := hown
  have hl : lv_has ls 2 [(0, .ref (a 0)), (1, .int t)] := hl
  have hinX3 : ∀ w ∈ u_ws RX3 TX3 21, w ∈ wsX3_lack := fun w h => List.mem_cons_of_mem _ (List.mem_append_right _ h)
  have k7 := hts (.fieldLink RX3 7 "PuppetBarModel" "isCut" "[Z") (by decide +kernel)
  refine lv_iload_n hx hb dX3_lack_0 rfl (lv_at hl 1 rfl) ?_
  refine cl_Pi (c_X3_isThread l _) ⟨hx, hb, hml, hown, hts⟩ (va_cwS 1 hts gX3_lack_X3_isThread rfl rfl rfl (by decide +kernel) ⟨Nat.le_of_ble_eq_true rfl, Nat.le_of_ble_eq_true rfl⟩) rfl hl.1 rfl (Nat.le_of_ble_eq_true rfl) (Nat.zero_le _) (Nat.zero_le _) dX3_lack_1 ?_
  refine lv_if_ne (tgt := 11) hx hb dX3_lack_4 (by decide) (fun c_4 => ?_) (fun c_4 => ?_)
  · refine lv_aload_n hx hb dX3_lack_11 rfl (lv_at hl 0 rfl) ?_
    refine va_get (D := D) (ci := 2) (C := RX3) (T := TX3) (N := 21) hx hb hts hinX3 hown hK hP 0 rfl rfl 0 (by decide) k7 (fun _ h9 => h9) rfl dX3_lack_12 ?_
    refine lv_iload_n hx hb dX3_lack_15 rfl (lv_at hl 1 rfl) ?_
    refine va_zald hx hb hK hP 1 2 rfl rfl (hm_thr c_4) dX3_lack_16 ?_
    refine lv_if_eq (tgt := 24) hx hb dX3_lack_17 (by decide) (fun c_17 => ?_) (fun c_17 => ?_)
    · refine lv_iconst (v := 0) hx hb dX3_lack_24 (by decide) ?_
      exact rt_I hx hb hr hlk hK hP hD hS ⟨Eq.symm (Eq.trans (if_neg c_4) (Eq.trans (if_pos c_17) (rfl))), rfl⟩ dX3_lack_25
    · refine lv_iconst (v := 2) hx hb dX3_lack_20 (by decide) ?_
      refine lv_goto (tgt := 25) hx hb dX3_lack_21 (by decide) ?_
      exact rt_I hx hb hr hlk hK hP hD hS ⟨Eq.symm (Eq.trans (if_neg c_4) (Eq.trans (if_neg c_17) (rfl))), rfl⟩ dX3_lack_25
  · refine lv_iconst (v := 1) hx hb dX3_lack_7 (by decide) ?_
    refine lv_goto (tgt := 25) hx hb dX3_lack_8 (by decide) ?_
    exact rt_I hx hb hr hlk hK hP hD hS ⟨Eq.symm (Eq.trans (if_pos c_4) (rfl)), rfl⟩ dX3_lack_25

def f_X3_trade_L (s : SM) (t : Int32) (u : Int32) : SM := let x1 := (gM_L s) t.toNatClampNeg; pM_L s (vp_updL (vp_updL (gM_L s) t.toNatClampNeg ((gM_L s) u.toNatClampNeg)) u.toNatClampNeg x1)
set_option maxHeartbeats 4000000 in
set_option maxRecDepth 100000 in
theorem c_X3_trade_L (l : Launch) (D : va_G) (K : ClassId × ClassId × ClassId) (a : Nat → Nat) (s : SM) (t : Int32) (u : Int32) (h_t : vp_in t 8) (h_u : vp_in u 8)  : MetV l yX3_trade wsX3_trade { frames := 0, cells := 0, slots := 0, locals := 0 } D vwCl (tyK K) (wM K a) [.ref (a 2), .int t, .int u] s (f_X3_trade_L s t u) := by
  intro sz0
  refine en_W (cc := cX3_trade) (maxL := 5) (ret := none) (Qc := fun A => va_Qv (fun u0 : SM => u0 = f_X3_trade_L s t u) (bs_a D vwCl (tyK K) (wM K a) A) A) (by decide) rfl (Nat.le_of_ble_eq_true rfl) ?_ sz0
  intro p e st m below meth c ls A hx hb hr hml hts hown hlk hA hK hP hD hS hl
  have hown : st.vm.findClass RX3 = some m.cls := hown
  have hl : lv_has ls 5 [(0, .ref (a 2)), (1, .int t), (2, .int u)] := hl
  refine lv_aload_n hx hb dX3_trade_0 rfl (lv_at hl 0 rfl) ?_
  refine lv_iload_n hx hb dX3_trade_1 rfl (lv_at hl 1 rfl) ?_
  refine va_lald hx hb hK hP 2 1 rfl rfl h_t dX3_trade_2 ?_
  refine tpl (fun x1 ex1 => ?_)
  refine lv_lstore_n (lv' := [(3, .long x1), (0, .ref (a 2)), (1, .int t), (2, .int u)]) hx hb dX3_trade_3 rfl hl (by decide) rfl (fun ls hl => ?_)
  refine lv_aload_n hx hb dX3_trade_4 rfl (lv_at hl 1 rfl) ?_
  refine lv_iload_n hx hb dX3_trade_5 rfl (lv_at hl 2 rfl) ?_
  refine lv_aload_n hx hb dX3_trade_6 rfl (lv_at hl 1 rfl) ?_
  refine lv_iload_n hx hb dX3_trade_7 rfl (lv_at hl 3 rfl) ?_
  refine va_lald hx hb hK hP 2 1 rfl rfl h_u dX3_trade_8 ?_
  refine va_last hx hb hK hP hD hS 2 1 rfl rfl h_t dX3_trade_9 (fun H locs hP hD hS => ?_)
  have hP : va_P D vwCl (wM K a (pM_L s (vp_updL (gM_L s) t.toNatClampNeg ((gM_L s) u.toNatClampNeg)))) H := hP
  have hD : va_D A (wM K a (pM_L s (vp_updL (gM_L s) t.toNatClampNeg ((gM_L s) u.toNatClampNeg)))) := hD
  refine lv_aload_n hx hb dX3_trade_10 rfl (lv_at hl 1 rfl) ?_
  refine lv_iload_n hx hb dX3_trade_11 rfl (lv_at hl 3 rfl) ?_
  refine lv_lload_n hx hb dX3_trade_12 rfl (lv_at hl 0 rfl) ?_
  refine va_last hx hb hK hP hD hS 2 1 rfl rfl h_u dX3_trade_13 (fun H locs hP hD hS => ?_)
  have hP : va_P D vwCl (wM K a (pM_L s (vp_updL (vp_updL (gM_L s) t.toNatClampNeg ((gM_L s) u.toNatClampNeg)) u.toNatClampNeg x1))) H := hP
  have hD : va_D A (wM K a (pM_L s (vp_updL (vp_updL (gM_L s) t.toNatClampNeg ((gM_L s) u.toNatClampNeg)) u.toNatClampNeg x1))) := hD
  subst ex1
  exact rt_V (s1 := _) hx hb hr hlk hK hP hD hS (Eq.symm (rfl)) dX3_trade_14

def f_X3_trade_T (s : SM) (t : Int32) (u : Int32) : SM := let x1 := (gM_T s) t.toNatClampNeg; pM_T s (vp_updL (vp_updL (gM_T s) t.toNatClampNeg ((gM_T s) u.toNatClampNeg)) u.toNatClampNeg x1)
set_option maxHeartbeats 4000000 in
set_option maxRecDepth 100000 in
theorem c_X3_trade_T (l : Launch) (D : va_G) (K : ClassId × ClassId × ClassId) (a : Nat → Nat) (s : SM) (t : Int32) (u : Int32) (h_t : vp_in t 8) (h_u : vp_in u 8)  : MetV l yX3_trade wsX3_trade { frames := 0, cells := 0, slots := 0, locals := 0 } D vwCl (tyK K) (wM K a) [.ref (a 5), .int t, .int u] s (f_X3_trade_T s t u) := by
  intro sz0
  refine en_W (cc := cX3_trade) (maxL := 5) (ret := none) (Qc := fun A => va_Qv (fun u0 : SM => u0 = f_X3_trade_T s t u) (bs_a D vwCl (tyK K) (wM K a) A) A) (by decide) rfl (Nat.le_of_ble_eq_true rfl) ?_ sz0
  intro p e st m below meth c ls A hx hb hr hml hts hown hlk hA hK hP hD hS hl
  have hown : st.vm.findClass RX3 = some m.cls := hown
  have hl : lv_has ls 5 [(0, .ref (a 5)), (1, .int t), (2, .int u)] := hl
  refine lv_aload_n hx hb dX3_trade_0 rfl (lv_at hl 0 rfl) ?_
  refine lv_iload_n hx hb dX3_trade_1 rfl (lv_at hl 1 rfl) ?_
  refine va_lald hx hb hK hP 5 1 rfl rfl h_t dX3_trade_2 ?_
  refine tpl (fun x1 ex1 => ?_)
  refine lv_lstore_n (lv' := [(3, .long x1), (0, .ref (a 5)), (1, .int t), (2, .int u)]) hx hb dX3_trade_3 rfl hl (by decide) rfl (fun ls hl => ?_)
  refine lv_aload_n hx hb dX3_trade_4 rfl (lv_at hl 1 rfl) ?_
  refine lv_iload_n hx hb dX3_trade_5 rfl (lv_at hl 2 rfl) ?_
  refine lv_aload_n hx hb dX3_trade_6 rfl (lv_at hl 1 rfl) ?_
  refine lv_iload_n hx hb dX3_trade_7 rfl (lv_at hl 3 rfl) ?_
  refine va_lald hx hb hK hP 5 1 rfl rfl h_u dX3_trade_8 ?_
  refine va_last hx hb hK hP hD hS 5 1 rfl rfl h_t dX3_trade_9 (fun H locs hP hD hS => ?_)
  have hP : va_P D vwCl (wM K a (pM_T s (vp_updL (gM_T s) t.toNatClampNeg ((gM_T s) u.toNatClampNeg)))) H := hP
  have hD : va_D A (wM K a (pM_T s (vp_updL (gM_T s) t.toNatClampNeg ((gM_T s) u.toNatClampNeg)))) := hD
  refine lv_aload_n hx hb dX3_trade_10 rfl (lv_at hl 1 rfl) ?_
  refine lv_iload_n hx hb dX3_trade_11 rfl (lv_at hl 3 rfl) ?_
  refine lv_lload_n hx hb dX3_trade_12 rfl (lv_at hl 0 rfl) ?_
  refine va_last hx hb hK hP hD hS 5 1 rfl rfl h_u dX3_trade_13 (fun H locs hP hD hS => ?_)
  have hP : va_P D vwCl (wM K a (pM_T s (vp_updL (vp_updL (gM_T s) t.toNatClampNeg ((gM_T s) u.toNatClampNeg)) u.toNatClampNeg x1))) H := hP
  have hD : va_D A (wM K a (pM_T s (vp_updL (vp_updL (gM_T s) t.toNatClampNeg ((gM_T s) u.toNatClampNeg)) u.toNatClampNeg x1))) := hD
  subst ex1
  exact rt_V (s1 := _) hx hb hr hlk hK hP hD hS (Eq.symm (rfl)) dX3_trade_14

def f_X3_trade_LO (s : SM) (t : Int32) (u : Int32) : SM := let x1 := (gM_LO s) t.toNatClampNeg; pM_LO s (vp_updL (vp_updL (gM_LO s) t.toNatClampNeg ((gM_LO s) u.toNatClampNeg)) u.toNatClampNeg x1)
set_option maxHeartbeats 4000000 in
set_option maxRecDepth 100000 in
theorem c_X3_trade_LO (l : Launch) (D : va_G) (K : ClassId × ClassId × ClassId) (a : Nat → Nat) (s : SM) (t : Int32) (u : Int32) (h_t : vp_in t 8) (h_u : vp_in u 8)  : MetV l yX3_trade wsX3_trade { frames := 0, cells := 0, slots := 0, locals := 0 } D vwCl (tyK K) (wM K a) [.ref (a 6), .int t, .int u] s (f_X3_trade_LO s t u) := by
  intro sz0
  refine en_W (cc := cX3_trade) (maxL := 5) (ret := none) (Qc := fun A => va_Qv (fun u0 : SM => u0 = f_X3_trade_LO s t u) (bs_a D vwCl (tyK K) (wM K a) A) A) (by decide) rfl (Nat.le_of_ble_eq_true rfl) ?_ sz0
  intro p e st m below meth c ls A hx hb hr hml hts hown hlk hA hK hP hD hS hl
  have hown : st.vm.findClass RX3 = some m.cls := hown
  have hl : lv_has ls 5 [(0, .ref (a 6)), (1, .int t), (2, .int u)] := hl
  refine lv_aload_n hx hb dX3_trade_0 rfl (lv_at hl 0 rfl) ?_
  refine lv_iload_n hx hb dX3_trade_1 rfl (lv_at hl 1 rfl) ?_
  refine va_lald hx hb hK hP 6 1 rfl rfl h_t dX3_trade_2 ?_
  refine tpl (fun x1 ex1 => ?_)
  refine lv_lstore_n (lv' := [(3, .long x1), (0, .ref (a 6)), (1, .int t), (2, .int u)]) hx hb dX3_trade_3 rfl hl (by decide) rfl (fun ls hl => ?_)
  refine lv_aload_n hx hb dX3_trade_4 rfl (lv_at hl 1 rfl) ?_
  refine lv_iload_n hx hb dX3_trade_5 rfl (lv_at hl 2 rfl) ?_
  refine lv_aload_n hx hb dX3_trade_6 rfl (lv_at hl 1 rfl) ?_
  refine lv_iload_n hx hb dX3_trade_7 rfl (lv_at hl 3 rfl) ?_
  refine va_lald hx hb hK hP 6 1 rfl rfl h_u dX3_trade_8 ?_
  refine va_last hx hb hK hP hD hS 6 1 rfl rfl h_t dX3_trade_9 (fun H locs hP hD hS => ?_)
  have hP : va_P D vwCl (wM K a (pM_LO s (vp_updL (gM_LO s) t.toNatClampNeg ((gM_LO s) u.toNatClampNeg)))) H := hP
  have hD : va_D A (wM K a (pM_LO s (vp_updL (gM_LO s) t.toNatClampNeg ((gM_LO s) u.toNatClampNeg)))) := hD
  refine lv_aload_n hx hb dX3_trade_10 rfl (lv_at hl 1 rfl) ?_
  refine lv_iload_n hx hb dX3_trade_11 rfl (lv_at hl 3 rfl) ?_
  refine lv_lload_n hx hb dX3_trade_12 rfl (lv_at hl 0 rfl) ?_
  refine va_last hx hb hK hP hD hS 6 1 rfl rfl h_u dX3_trade_13 (fun H locs hP hD hS => ?_)
  have hP : va_P D vwCl (wM K a (pM_LO s (vp_updL (vp_updL (gM_LO s) t.toNatClampNeg ((gM_LO s) u.toNatClampNeg)) u.toNatClampNeg x1))) H := hP
  have hD : va_D A (wM K a (pM_LO s (vp_updL (vp_updL (gM_LO s) t.toNatClampNeg ((gM_LO s) u.toNatClampNeg)) u.toNatClampNeg x1))) := hD
  subst ex1
  exact rt_V (s1 := _) hx hb hr hlk hK hP hD hS (Eq.symm (rfl)) dX3_trade_14

def f_X3_trade_HI (s : SM) (t : Int32) (u : Int32) : SM := let x1 := (gM_HI s) t.toNatClampNeg; pM_HI s (vp_updL (vp_updL (gM_HI s) t.toNatClampNeg ((gM_HI s) u.toNatClampNeg)) u.toNatClampNeg x1)
set_option maxHeartbeats 4000000 in
set_option maxRecDepth 100000 in
theorem c_X3_trade_HI (l : Launch) (D : va_G) (K : ClassId × ClassId × ClassId) (a : Nat → Nat) (s : SM) (t : Int32) (u : Int32) (h_t : vp_in t 8) (h_u : vp_in u 8)  : MetV l yX3_trade wsX3_trade { frames := 0, cells := 0, slots := 0, locals := 0 } D vwCl (tyK K) (wM K a) [.ref (a 7), .int t, .int u] s (f_X3_trade_HI s t u) := by
  intro sz0
  refine en_W (cc := cX3_trade) (maxL := 5) (ret := none) (Qc := fun A => va_Qv (fun u0 : SM => u0 = f_X3_trade_HI s t u) (bs_a D vwCl (tyK K) (wM K a) A) A) (by decide) rfl (Nat.le_of_ble_eq_true rfl) ?_ sz0
  intro p e st m below meth c ls A hx hb hr hml hts hown hlk hA hK hP hD hS hl
  have hown : st.vm.findClass RX3 = some m.cls := hown
  have hl : lv_has ls 5 [(0, .ref (a 7)), (1, .int t), (2, .int u)] := hl
  refine lv_aload_n hx hb dX3_trade_0 rfl (lv_at hl 0 rfl) ?_
  refine lv_iload_n hx hb dX3_trade_1 rfl (lv_at hl 1 rfl) ?_
  refine va_lald hx hb hK hP 7 1 rfl rfl h_t dX3_trade_2 ?_
  refine tpl (fun x1 ex1 => ?_)
  refine lv_lstore_n (lv' := [(3, .long x1), (0, .ref (a 7)), (1, .int t), (2, .int u)]) hx hb dX3_trade_3 rfl hl (by decide) rfl (fun ls hl => ?_)
  refine lv_aload_n hx hb dX3_trade_4 rfl (lv_at hl 1 rfl) ?_
  refine lv_iload_n hx hb dX3_trade_5 rfl (lv_at hl 2 rfl) ?_
  refine lv_aload_n hx hb dX3_trade_6 rfl (lv_at hl 1 rfl) ?_
  refine lv_iload_n hx hb dX3_trade_7 rfl (lv_at hl 3 rfl) ?_
  refine va_lald hx hb hK hP 7 1 rfl rfl h_u dX3_trade_8 ?_
  refine va_last hx hb hK hP hD hS 7 1 rfl rfl h_t dX3_trade_9 (fun H locs hP hD hS => ?_)
  have hP : va_P D vwCl (wM K a (pM_HI s (vp_updL (gM_HI s) t.toNatClampNeg ((gM_HI s) u.toNatClampNeg)))) H := hP
  have hD : va_D A (wM K a (pM_HI s (vp_updL (gM_HI s) t.toNatClampNeg ((gM_HI s) u.toNatClampNeg)))) := hD
  refine lv_aload_n hx hb dX3_trade_10 rfl (lv_at hl 1 rfl) ?_
  refine lv_iload_n hx hb dX3_trade_11 rfl (lv_at hl 3 rfl) ?_
  refine lv_lload_n hx hb dX3_trade_12 rfl (lv_at hl 0 rfl) ?_
  refine va_last hx hb hK hP hD hS 7 1 rfl rfl h_u dX3_trade_13 (fun H locs hP hD hS => ?_)
  have hP : va_P D vwCl (wM K a (pM_HI s (vp_updL (vp_updL (gM_HI s) t.toNatClampNeg ((gM_HI s) u.toNatClampNeg)) u.toNatClampNeg x1))) H := hP
  have hD : va_D A (wM K a (pM_HI s (vp_updL (vp_updL (gM_HI s) t.toNatClampNeg ((gM_HI s) u.toNatClampNeg)) u.toNatClampNeg x1))) := hD
  subst ex1
  exact rt_V (s1 := _) hx hb hr hlk hK hP hD hS (Eq.symm (rfl)) dX3_trade_14

def f_X3_trade4_P (s : SM) (t : Int32) (u : Int32) : SM := let x1 := (gM_P s) t.toNatClampNeg; pM_P s (upd (upd (gM_P s) t.toNatClampNeg ((gM_P s) u.toNatClampNeg)) u.toNatClampNeg x1)
set_option maxHeartbeats 4000000 in
set_option maxRecDepth 100000 in
theorem c_X3_trade4_P (l : Launch) (D : va_G) (K : ClassId × ClassId × ClassId) (a : Nat → Nat) (s : SM) (t : Int32) (u : Int32) (h_t : vp_in t 8) (h_u : vp_in u 8)  : MetV l yX3_trade4 wsX3_trade4 { frames := 0, cells := 0, slots := 0, locals := 0 } D vwCl (tyK K) (wM K a) [.ref (a 3), .int t, .int u] s (f_X3_trade4_P s t u) := by
  intro sz0
  refine en_W (cc := cX3_trade4) (maxL := 4) (ret := none) (Qc := fun A => va_Qv (fun u0 : SM => u0 = f_X3_trade4_P s t u) (bs_a D vwCl (tyK K) (wM K a) A) A) (by decide) rfl (Nat.le_of_ble_eq_true rfl) ?_ sz0
  intro p e st m below meth c ls A hx hb hr hml hts hown hlk hA hK hP hD hS hl
  have hown : st.vm.findClass RX3 = some m.cls := hown
  have hl : lv_has ls 4 [(0, .ref (a 3)), (1, .int t), (2, .int u)] := hl
  refine lv_aload_n hx hb dX3_trade4_0 rfl (lv_at hl 0 rfl) ?_
  refine lv_iload_n hx hb dX3_trade4_1 rfl (lv_at hl 1 rfl) ?_
  refine va_iald hx hb hK hP 3 0 rfl rfl h_t dX3_trade4_2 ?_
  refine tpi (fun x1 ex1 => ?_)
  refine lv_istore_n (lv' := [(3, .int x1), (0, .ref (a 3)), (1, .int t), (2, .int u)]) hx hb dX3_trade4_3 rfl hl (by decide) rfl (fun ls hl => ?_)
  refine lv_aload_n hx hb dX3_trade4_4 rfl (lv_at hl 1 rfl) ?_
  refine lv_iload_n hx hb dX3_trade4_5 rfl (lv_at hl 2 rfl) ?_
  refine lv_aload_n hx hb dX3_trade4_6 rfl (lv_at hl 1 rfl) ?_
  refine lv_iload_n hx hb dX3_trade4_7 rfl (lv_at hl 3 rfl) ?_
  refine va_iald hx hb hK hP 3 0 rfl rfl h_u dX3_trade4_8 ?_
  refine va_iast hx hb hK hP hD hS 3 0 rfl rfl h_t dX3_trade4_9 (fun H locs hP hD hS => ?_)
  have hP : va_P D vwCl (wM K a (pM_P s (upd (gM_P s) t.toNatClampNeg ((gM_P s) u.toNatClampNeg)))) H := hP
  have hD : va_D A (wM K a (pM_P s (upd (gM_P s) t.toNatClampNeg ((gM_P s) u.toNatClampNeg)))) := hD
  refine lv_aload_n hx hb dX3_trade4_10 rfl (lv_at hl 1 rfl) ?_
  refine lv_iload_n hx hb dX3_trade4_11 rfl (lv_at hl 3 rfl) ?_
  refine lv_iload_n hx hb dX3_trade4_12 rfl (lv_at hl 0 rfl) ?_
  refine va_iast hx hb hK hP hD hS 3 0 rfl rfl h_u dX3_trade4_13 (fun H locs hP hD hS => ?_)
  have hP : va_P D vwCl (wM K a (pM_P s (upd (upd (gM_P s) t.toNatClampNeg ((gM_P s) u.toNatClampNeg)) u.toNatClampNeg x1))) H := hP
  have hD : va_D A (wM K a (pM_P s (upd (upd (gM_P s) t.toNatClampNeg ((gM_P s) u.toNatClampNeg)) u.toNatClampNeg x1))) := hD
  subst ex1
  exact rt_V (s1 := _) hx hb hr hlk hK hP hD hS (Eq.symm (rfl)) dX3_trade4_14

def f_X3_trade4_K (s : SM) (t : Int32) (u : Int32) : SM := let x1 := (gM_K s) t.toNatClampNeg; pM_K s (upd (upd (gM_K s) t.toNatClampNeg ((gM_K s) u.toNatClampNeg)) u.toNatClampNeg x1)
set_option maxHeartbeats 4000000 in
set_option maxRecDepth 100000 in
theorem c_X3_trade4_K (l : Launch) (D : va_G) (K : ClassId × ClassId × ClassId) (a : Nat → Nat) (s : SM) (t : Int32) (u : Int32) (h_t : vp_in t 8) (h_u : vp_in u 8)  : MetV l yX3_trade4 wsX3_trade4 { frames := 0, cells := 0, slots := 0, locals := 0 } D vwCl (tyK K) (wM K a) [.ref (a 4), .int t, .int u] s (f_X3_trade4_K s t u) := by
  intro sz0
  refine en_W (cc := cX3_trade4) (maxL := 4) (ret := none) (Qc := fun A => va_Qv (fun u0 : SM => u0 = f_X3_trade4_K s t u) (bs_a D vwCl (tyK K) (wM K a) A) A) (by decide) rfl (Nat.le_of_ble_eq_true rfl) ?_ sz0
  intro p e st m below meth c ls A hx hb hr hml hts hown hlk hA hK hP hD hS hl
  have hown : st.vm.findClass RX3 = some m.cls := hown
  have hl : lv_has ls 4 [(0, .ref (a 4)), (1, .int t), (2, .int u)] := hl
  refine lv_aload_n hx hb dX3_trade4_0 rfl (lv_at hl 0 rfl) ?_
  refine lv_iload_n hx hb dX3_trade4_1 rfl (lv_at hl 1 rfl) ?_
  refine va_iald hx hb hK hP 4 0 rfl rfl h_t dX3_trade4_2 ?_
  refine tpi (fun x1 ex1 => ?_)
  refine lv_istore_n (lv' := [(3, .int x1), (0, .ref (a 4)), (1, .int t), (2, .int u)]) hx hb dX3_trade4_3 rfl hl (by decide) rfl (fun ls hl => ?_)
  refine lv_aload_n hx hb dX3_trade4_4 rfl (lv_at hl 1 rfl) ?_
  refine lv_iload_n hx hb dX3_trade4_5 rfl (lv_at hl 2 rfl) ?_
  refine lv_aload_n hx hb dX3_trade4_6 rfl (lv_at hl 1 rfl) ?_
  refine lv_iload_n hx hb dX3_trade4_7 rfl (lv_at hl 3 rfl) ?_
  refine va_iald hx hb hK hP 4 0 rfl rfl h_u dX3_trade4_8 ?_
  refine va_iast hx hb hK hP hD hS 4 0 rfl rfl h_t dX3_trade4_9 (fun H locs hP hD hS => ?_)
  have hP : va_P D vwCl (wM K a (pM_K s (upd (gM_K s) t.toNatClampNeg ((gM_K s) u.toNatClampNeg)))) H := hP
  have hD : va_D A (wM K a (pM_K s (upd (gM_K s) t.toNatClampNeg ((gM_K s) u.toNatClampNeg)))) := hD
  refine lv_aload_n hx hb dX3_trade4_10 rfl (lv_at hl 1 rfl) ?_
  refine lv_iload_n hx hb dX3_trade4_11 rfl (lv_at hl 3 rfl) ?_
  refine lv_iload_n hx hb dX3_trade4_12 rfl (lv_at hl 0 rfl) ?_
  refine va_iast hx hb hK hP hD hS 4 0 rfl rfl h_u dX3_trade4_13 (fun H locs hP hD hS => ?_)
  have hP : va_P D vwCl (wM K a (pM_K s (upd (upd (gM_K s) t.toNatClampNeg ((gM_K s) u.toNatClampNeg)) u.toNatClampNeg x1))) H := hP
  have hD : va_D A (wM K a (pM_K s (upd (upd (gM_K s) t.toNatClampNeg ((gM_K s) u.toNatClampNeg)) u.toNatClampNeg x1))) := hD
  subst ex1
  exact rt_V (s1 := _) hx hb hr hlk hK hP hD hS (Eq.symm (rfl)) dX3_trade4_14

def f_X3_flip (s : SM) (t : Int32) : SM := if 0 ≤ ((gM_K s) t.toNatClampNeg) then (if 0 ≤ ((gM_T s) t.toNatClampNeg) then (pM_T (pM_K (pM_P (pM_L s (vp_updL (gM_L s) t.toNatClampNeg (f_X3_amount ((gM_L s) t.toNatClampNeg) 52))) (upd (gM_P s) t.toNatClampNeg (f_X3_amount4 ((gM_P s) t.toNatClampNeg)))) (upd (gM_K s) t.toNatClampNeg ((gM_K s) t.toNatClampNeg))) (vp_updL (gM_T s) t.toNatClampNeg ((gM_T s) t.toNatClampNeg))) else (pM_T (pM_K (pM_P (pM_L s (vp_updL (gM_L s) t.toNatClampNeg (f_X3_amount ((gM_L s) t.toNatClampNeg) 52))) (upd (gM_P s) t.toNatClampNeg (f_X3_amount4 ((gM_P s) t.toNatClampNeg)))) (upd (gM_K s) t.toNatClampNeg ((gM_K s) t.toNatClampNeg))) (vp_updL (gM_T s) t.toNatClampNeg (-((gM_T s) t.toNatClampNeg))))) else (if 0 ≤ ((gM_T s) t.toNatClampNeg) then (pM_T (pM_K (pM_P (pM_L s (vp_updL (gM_L s) t.toNatClampNeg (f_X3_amount ((gM_L s) t.toNatClampNeg) 52))) (upd (gM_P s) t.toNatClampNeg (f_X3_amount4 ((gM_P s) t.toNatClampNeg)))) (upd (gM_K s) t.toNatClampNeg (-((gM_K s) t.toNatClampNeg)))) (vp_updL (gM_T s) t.toNatClampNeg ((gM_T s) t.toNatClampNeg))) else (pM_T (pM_K (pM_P (pM_L s (vp_updL (gM_L s) t.toNatClampNeg (f_X3_amount ((gM_L s) t.toNatClampNeg) 52))) (upd (gM_P s) t.toNatClampNeg (f_X3_amount4 ((gM_P s) t.toNatClampNeg)))) (upd (gM_K s) t.toNatClampNeg (-((gM_K s) t.toNatClampNeg)))) (vp_updL (gM_T s) t.toNatClampNeg (-((gM_T s) t.toNatClampNeg)))))
set_option maxHeartbeats 4000000 in
set_option maxRecDepth 100000 in
theorem c_X3_flip (l : Launch) (D : va_G) (K : ClassId × ClassId × ClassId) (a : Nat → Nat) (s : SM) (t : Int32) (h_t : vp_in t 8)  : MetV l yX3_flip wsX3_flip { frames := 2, cells := 0, slots := 0, locals := 42 } D vwCl (tyK K) (wM K a) [.ref (a 0), .int t] s (f_X3_flip s t) := by
  intro sz0
  refine en_W (cc := cX3_flip) (maxL := 2) (ret := none) (Qc := fun A => va_Qv (fun u0 : SM => u0 = f_X3_flip s t) (bs_a D vwCl (tyK K) (wM K a) A) A) (by decide) rfl (Nat.le_of_ble_eq_true rfl) ?_ sz0
  intro p e st m below meth c ls A hx hb hr hml hts hown hlk hA hK hP hD hS hl
  have hown : st.vm.findClass RX3 = some m.cls := hown
  have hl : lv_has ls 2 [(0, .ref (a 0)), (1, .int t)] := hl
  have hinX3 : ∀ w ∈ u_ws RX3 TX3 21, w ∈ wsX3_flip := fun w h => List.mem_cons_of_mem _ (List.mem_append_right _ h)
  have k13 := hts (.fieldLink RX3 13 "PuppetBarModel" "length" "[J") (by decide +kernel)
  have k17 := hts (.fieldLink RX3 17 "PuppetBarModel" "pull" "[I") (by decide +kernel)
  have k21 := hts (.fieldLink RX3 21 "PuppetBarModel" "knots" "[I") (by decide +kernel)
  have k24 := hts (.fieldLink RX3 24 "PuppetBarModel" "twist" "[J") (by decide +kernel)
  refine lv_aload_n hx hb dX3_flip_0 rfl (lv_at hl 0 rfl) ?_
  refine va_get (D := D) (ci := 2) (C := RX3) (T := TX3) (N := 21) hx hb hts hinX3 hown hK hP 0 rfl rfl 1 (by decide) k13 (fun _ h9 => h9) rfl dX3_flip_1 ?_
  refine lv_iload_n hx hb dX3_flip_4 rfl (lv_at hl 1 rfl) ?_
  refine lv_aload_n hx hb dX3_flip_5 rfl (lv_at hl 0 rfl) ?_
  refine va_get (D := D) (ci := 2) (C := RX3) (T := TX3) (N := 21) hx hb hts hinX3 hown hK hP 0 rfl rfl 1 (by decide) k13 (fun _ h9 => h9) rfl dX3_flip_6 ?_
  refine lv_iload_n hx hb dX3_flip_9 rfl (lv_at hl 1 rfl) ?_
  refine va_lald hx hb hK hP 2 1 rfl rfl h_t dX3_flip_10 ?_
  refine lv_bipush (v := 52) hx hb dX3_flip_11 (by decide) ?_
  refine cl_Pl (c_X3_amount l _ _) ⟨hx, hb, hml, hown, hts⟩ (va_cwS 2 hts gX3_flip_X3_amount rfl rfl rfl (by decide +kernel) ⟨Nat.le_of_ble_eq_true rfl, Nat.le_of_ble_eq_true rfl⟩) rfl hl.1 rfl (Nat.le_of_ble_eq_true rfl) (Nat.zero_le _) (Nat.zero_le _) dX3_flip_13 ?_
  refine va_last hx hb hK hP hD hS 2 1 rfl rfl h_t dX3_flip_16 (fun H locs hP hD hS => ?_)
  have hP : va_P D vwCl (wM K a (pM_L s (vp_updL (gM_L s) t.toNatClampNeg (f_X3_amount ((gM_L s) t.toNatClampNeg) 52)))) H := hP
  have hD : va_D A (wM K a (pM_L s (vp_updL (gM_L s) t.toNatClampNeg (f_X3_amount ((gM_L s) t.toNatClampNeg) 52)))) := hD
  refine lv_aload_n hx hb dX3_flip_17 rfl (lv_at hl 0 rfl) ?_
  refine va_get (D := D) (ci := 2) (C := RX3) (T := TX3) (N := 21) hx hb hts hinX3 hown hK hP 0 rfl rfl 2 (by decide) k17 (fun _ h9 => h9) rfl dX3_flip_18 ?_
  refine lv_iload_n hx hb dX3_flip_21 rfl (lv_at hl 1 rfl) ?_
  refine lv_aload_n hx hb dX3_flip_22 rfl (lv_at hl 0 rfl) ?_
  refine va_get (D := D) (ci := 2) (C := RX3) (T := TX3) (N := 21) hx hb hts hinX3 hown hK hP 0 rfl rfl 2 (by decide) k17 (fun _ h9 => h9) rfl dX3_flip_23 ?_
  refine lv_iload_n hx hb dX3_flip_26 rfl (lv_at hl 1 rfl) ?_
  refine va_iald hx hb hK hP 3 0 rfl rfl h_t dX3_flip_27 ?_
  refine cl_Pi (c_X3_amount4 l _) ⟨hx, hb, hml, hown, hts⟩ (va_cwS 1 hts gX3_flip_X3_amount4 rfl rfl rfl (by decide +kernel) ⟨Nat.le_of_ble_eq_true rfl, Nat.le_of_ble_eq_true rfl⟩) rfl hl.1 rfl (Nat.le_of_ble_eq_true rfl) (Nat.zero_le _) (Nat.zero_le _) dX3_flip_28 ?_
  refine va_iast hx hb hK hP hD hS 3 0 rfl rfl h_t dX3_flip_31 (fun H locs hP hD hS => ?_)
  have hP : va_P D vwCl (wM K a (pM_P (pM_L s (vp_updL (gM_L s) t.toNatClampNeg (f_X3_amount ((gM_L s) t.toNatClampNeg) 52))) (upd (gM_P s) t.toNatClampNeg (f_X3_amount4 ((gM_P s) t.toNatClampNeg))))) H := hP
  have hD : va_D A (wM K a (pM_P (pM_L s (vp_updL (gM_L s) t.toNatClampNeg (f_X3_amount ((gM_L s) t.toNatClampNeg) 52))) (upd (gM_P s) t.toNatClampNeg (f_X3_amount4 ((gM_P s) t.toNatClampNeg))))) := hD
  refine lv_aload_n hx hb dX3_flip_32 rfl (lv_at hl 0 rfl) ?_
  refine va_get (D := D) (ci := 2) (C := RX3) (T := TX3) (N := 21) hx hb hts hinX3 hown hK hP 0 rfl rfl 3 (by decide) k21 (fun _ h9 => h9) rfl dX3_flip_33 ?_
  refine lv_iload_n hx hb dX3_flip_36 rfl (lv_at hl 1 rfl) ?_
  refine lv_aload_n hx hb dX3_flip_37 rfl (lv_at hl 0 rfl) ?_
  refine va_get (D := D) (ci := 2) (C := RX3) (T := TX3) (N := 21) hx hb hts hinX3 hown hK hP 0 rfl rfl 3 (by decide) k21 (fun _ h9 => h9) rfl dX3_flip_38 ?_
  refine lv_iload_n hx hb dX3_flip_41 rfl (lv_at hl 1 rfl) ?_
  refine va_iald hx hb hK hP 4 0 rfl rfl h_t dX3_flip_42 ?_
  refine lv_if_ge (tgt := 56) hx hb dX3_flip_43 (by decide) (fun c_43 => ?_) (fun c_43 => ?_)
  · refine lv_aload_n hx hb dX3_flip_56 rfl (lv_at hl 0 rfl) ?_
    refine va_get (D := D) (ci := 2) (C := RX3) (T := TX3) (N := 21) hx hb hts hinX3 hown hK hP 0 rfl rfl 3 (by decide) k21 (fun _ h9 => h9) rfl dX3_flip_57 ?_
    refine lv_iload_n hx hb dX3_flip_60 rfl (lv_at hl 1 rfl) ?_
    refine va_iald hx hb hK hP 4 0 rfl rfl h_t dX3_flip_61 ?_
    refine va_iast hx hb hK hP hD hS 4 0 rfl rfl h_t dX3_flip_62 (fun H locs hP hD hS => ?_)
    have hP : va_P D vwCl (wM K a (pM_K (pM_P (pM_L s (vp_updL (gM_L s) t.toNatClampNeg (f_X3_amount ((gM_L s) t.toNatClampNeg) 52))) (upd (gM_P s) t.toNatClampNeg (f_X3_amount4 ((gM_P s) t.toNatClampNeg)))) (upd (gM_K s) t.toNatClampNeg ((gM_K s) t.toNatClampNeg)))) H := hP
    have hD : va_D A (wM K a (pM_K (pM_P (pM_L s (vp_updL (gM_L s) t.toNatClampNeg (f_X3_amount ((gM_L s) t.toNatClampNeg) 52))) (upd (gM_P s) t.toNatClampNeg (f_X3_amount4 ((gM_P s) t.toNatClampNeg)))) (upd (gM_K s) t.toNatClampNeg ((gM_K s) t.toNatClampNeg)))) := hD
    refine lv_aload_n hx hb dX3_flip_63 rfl (lv_at hl 0 rfl) ?_
    refine va_get (D := D) (ci := 2) (C := RX3) (T := TX3) (N := 21) hx hb hts hinX3 hown hK hP 0 rfl rfl 4 (by decide) k24 (fun _ h9 => h9) rfl dX3_flip_64 ?_
    refine lv_iload_n hx hb dX3_flip_67 rfl (lv_at hl 1 rfl) ?_
    refine lv_aload_n hx hb dX3_flip_68 rfl (lv_at hl 0 rfl) ?_
    refine va_get (D := D) (ci := 2) (C := RX3) (T := TX3) (N := 21) hx hb hts hinX3 hown hK hP 0 rfl rfl 4 (by decide) k24 (fun _ h9 => h9) rfl dX3_flip_69 ?_
    refine lv_iload_n hx hb dX3_flip_72 rfl (lv_at hl 1 rfl) ?_
    refine va_lald hx hb hK hP 5 1 rfl rfl h_t dX3_flip_73 ?_
    refine lv_lconst (v := 0) hx hb dX3_flip_74 (by decide) ?_
    refine W.lcmp hx hb dX3_flip_75 ?_
    refine lv_if_ge (tgt := 89) hx hb dX3_flip_76 (by decide) (fun c_76 => ?_) (fun c_76 => ?_)
    · have c_76 := (lg_cmp_ge _ _).mp c_76
      refine lv_aload_n hx hb dX3_flip_89 rfl (lv_at hl 0 rfl) ?_
      refine va_get (D := D) (ci := 2) (C := RX3) (T := TX3) (N := 21) hx hb hts hinX3 hown hK hP 0 rfl rfl 4 (by decide) k24 (fun _ h9 => h9) rfl dX3_flip_90 ?_
      refine lv_iload_n hx hb dX3_flip_93 rfl (lv_at hl 1 rfl) ?_
      refine va_lald hx hb hK hP 5 1 rfl rfl h_t dX3_flip_94 ?_
      refine va_last hx hb hK hP hD hS 5 1 rfl rfl h_t dX3_flip_95 (fun H locs hP hD hS => ?_)
      have hP : va_P D vwCl (wM K a (pM_T (pM_K (pM_P (pM_L s (vp_updL (gM_L s) t.toNatClampNeg (f_X3_amount ((gM_L s) t.toNatClampNeg) 52))) (upd (gM_P s) t.toNatClampNeg (f_X3_amount4 ((gM_P s) t.toNatClampNeg)))) (upd (gM_K s) t.toNatClampNeg ((gM_K s) t.toNatClampNeg))) (vp_updL (gM_T s) t.toNatClampNeg ((gM_T s) t.toNatClampNeg)))) H := hP
      have hD : va_D A (wM K a (pM_T (pM_K (pM_P (pM_L s (vp_updL (gM_L s) t.toNatClampNeg (f_X3_amount ((gM_L s) t.toNatClampNeg) 52))) (upd (gM_P s) t.toNatClampNeg (f_X3_amount4 ((gM_P s) t.toNatClampNeg)))) (upd (gM_K s) t.toNatClampNeg ((gM_K s) t.toNatClampNeg))) (vp_updL (gM_T s) t.toNatClampNeg ((gM_T s) t.toNatClampNeg)))) := hD
      exact rt_V (s1 := _) hx hb hr hlk hK hP hD hS (Eq.symm (Eq.trans (if_pos c_43) (Eq.trans (if_pos c_76) (rfl)))) dX3_flip_96
    · have c_76 := mt (lg_cmp_ge _ _).mpr c_76
      refine lv_aload_n hx hb dX3_flip_79 rfl (lv_at hl 0 rfl) ?_
      refine va_get (D := D) (ci := 2) (C := RX3) (T := TX3) (N := 21) hx hb hts hinX3 hown hK hP 0 rfl rfl 4 (by decide) k24 (fun _ h9 => h9) rfl dX3_flip_80 ?_
      refine lv_iload_n hx hb dX3_flip_83 rfl (lv_at hl 1 rfl) ?_
      refine va_lald hx hb hK hP 5 1 rfl rfl h_t dX3_flip_84 ?_
      refine lv_lneg hx hb dX3_flip_85 ?_
      refine lv_goto (tgt := 95) hx hb dX3_flip_86 (by decide) ?_
      refine va_last hx hb hK hP hD hS 5 1 rfl rfl h_t dX3_flip_95 (fun H locs hP hD hS => ?_)
      have hP : va_P D vwCl (wM K a (pM_T (pM_K (pM_P (pM_L s (vp_updL (gM_L s) t.toNatClampNeg (f_X3_amount ((gM_L s) t.toNatClampNeg) 52))) (upd (gM_P s) t.toNatClampNeg (f_X3_amount4 ((gM_P s) t.toNatClampNeg)))) (upd (gM_K s) t.toNatClampNeg ((gM_K s) t.toNatClampNeg))) (vp_updL (gM_T s) t.toNatClampNeg (-((gM_T s) t.toNatClampNeg))))) H := hP
      have hD : va_D A (wM K a (pM_T (pM_K (pM_P (pM_L s (vp_updL (gM_L s) t.toNatClampNeg (f_X3_amount ((gM_L s) t.toNatClampNeg) 52))) (upd (gM_P s) t.toNatClampNeg (f_X3_amount4 ((gM_P s) t.toNatClampNeg)))) (upd (gM_K s) t.toNatClampNeg ((gM_K s) t.toNatClampNeg))) (vp_updL (gM_T s) t.toNatClampNeg (-((gM_T s) t.toNatClampNeg))))) := hD
      exact rt_V (s1 := _) hx hb hr hlk hK hP hD hS (Eq.symm (Eq.trans (if_pos c_43) (Eq.trans (if_neg c_76) (rfl)))) dX3_flip_96
  · refine lv_aload_n hx hb dX3_flip_46 rfl (lv_at hl 0 rfl) ?_
    refine va_get (D := D) (ci := 2) (C := RX3) (T := TX3) (N := 21) hx hb hts hinX3 hown hK hP 0 rfl rfl 3 (by decide) k21 (fun _ h9 => h9) rfl dX3_flip_47 ?_
    refine lv_iload_n hx hb dX3_flip_50 rfl (lv_at hl 1 rfl) ?_
    refine va_iald hx hb hK hP 4 0 rfl rfl h_t dX3_flip_51 ?_
    refine lv_ineg hx hb dX3_flip_52 ?_
    refine lv_goto (tgt := 62) hx hb dX3_flip_53 (by decide) ?_
    refine va_iast hx hb hK hP hD hS 4 0 rfl rfl h_t dX3_flip_62 (fun H locs hP hD hS => ?_)
    have hP : va_P D vwCl (wM K a (pM_K (pM_P (pM_L s (vp_updL (gM_L s) t.toNatClampNeg (f_X3_amount ((gM_L s) t.toNatClampNeg) 52))) (upd (gM_P s) t.toNatClampNeg (f_X3_amount4 ((gM_P s) t.toNatClampNeg)))) (upd (gM_K s) t.toNatClampNeg (-((gM_K s) t.toNatClampNeg))))) H := hP
    have hD : va_D A (wM K a (pM_K (pM_P (pM_L s (vp_updL (gM_L s) t.toNatClampNeg (f_X3_amount ((gM_L s) t.toNatClampNeg) 52))) (upd (gM_P s) t.toNatClampNeg (f_X3_amount4 ((gM_P s) t.toNatClampNeg)))) (upd (gM_K s) t.toNatClampNeg (-((gM_K s) t.toNatClampNeg))))) := hD
    refine lv_aload_n hx hb dX3_flip_63 rfl (lv_at hl 0 rfl) ?_
    refine va_get (D := D) (ci := 2) (C := RX3) (T := TX3) (N := 21) hx hb hts hinX3 hown hK hP 0 rfl rfl 4 (by decide) k24 (fun _ h9 => h9) rfl dX3_flip_64 ?_
    refine lv_iload_n hx hb dX3_flip_67 rfl (lv_at hl 1 rfl) ?_
    refine lv_aload_n hx hb dX3_flip_68 rfl (lv_at hl 0 rfl) ?_
    refine va_get (D := D) (ci := 2) (C := RX3) (T := TX3) (N := 21) hx hb hts hinX3 hown hK hP 0 rfl rfl 4 (by decide) k24 (fun _ h9 => h9) rfl dX3_flip_69 ?_
    refine lv_iload_n hx hb dX3_flip_72 rfl (lv_at hl 1 rfl) ?_
    refine va_lald hx hb hK hP 5 1 rfl rfl h_t dX3_flip_73 ?_
    refine lv_lconst (v := 0) hx hb dX3_flip_74 (by decide) ?_
    refine W.lcmp hx hb dX3_flip_75 ?_
    refine lv_if_ge (tgt := 89) hx hb dX3_flip_76 (by decide) (fun c_76 => ?_) (fun c_76 => ?_)
    · have c_76 := (lg_cmp_ge _ _).mp c_76
      refine lv_aload_n hx hb dX3_flip_89 rfl (lv_at hl 0 rfl) ?_
      refine va_get (D := D) (ci := 2) (C := RX3) (T := TX3) (N := 21) hx hb hts hinX3 hown hK hP 0 rfl rfl 4 (by decide) k24 (fun _ h9 => h9) rfl dX3_flip_90 ?_
      refine lv_iload_n hx hb dX3_flip_93 rfl (lv_at hl 1 rfl) ?_
      refine va_lald hx hb hK hP 5 1 rfl rfl h_t dX3_flip_94 ?_
      refine va_last hx hb hK hP hD hS 5 1 rfl rfl h_t dX3_flip_95 (fun H locs hP hD hS => ?_)
      have hP : va_P D vwCl (wM K a (pM_T (pM_K (pM_P (pM_L s (vp_updL (gM_L s) t.toNatClampNeg (f_X3_amount ((gM_L s) t.toNatClampNeg) 52))) (upd (gM_P s) t.toNatClampNeg (f_X3_amount4 ((gM_P s) t.toNatClampNeg)))) (upd (gM_K s) t.toNatClampNeg (-((gM_K s) t.toNatClampNeg)))) (vp_updL (gM_T s) t.toNatClampNeg ((gM_T s) t.toNatClampNeg)))) H := hP
      have hD : va_D A (wM K a (pM_T (pM_K (pM_P (pM_L s (vp_updL (gM_L s) t.toNatClampNeg (f_X3_amount ((gM_L s) t.toNatClampNeg) 52))) (upd (gM_P s) t.toNatClampNeg (f_X3_amount4 ((gM_P s) t.toNatClampNeg)))) (upd (gM_K s) t.toNatClampNeg (-((gM_K s) t.toNatClampNeg)))) (vp_updL (gM_T s) t.toNatClampNeg ((gM_T s) t.toNatClampNeg)))) := hD
      exact rt_V (s1 := _) hx hb hr hlk hK hP hD hS (Eq.symm (Eq.trans (if_neg c_43) (Eq.trans (if_pos c_76) (rfl)))) dX3_flip_96
    · have c_76 := mt (lg_cmp_ge _ _).mpr c_76
      refine lv_aload_n hx hb dX3_flip_79 rfl (lv_at hl 0 rfl) ?_
      refine va_get (D := D) (ci := 2) (C := RX3) (T := TX3) (N := 21) hx hb hts hinX3 hown hK hP 0 rfl rfl 4 (by decide) k24 (fun _ h9 => h9) rfl dX3_flip_80 ?_
      refine lv_iload_n hx hb dX3_flip_83 rfl (lv_at hl 1 rfl) ?_
      refine va_lald hx hb hK hP 5 1 rfl rfl h_t dX3_flip_84 ?_
      refine lv_lneg hx hb dX3_flip_85 ?_
      refine lv_goto (tgt := 95) hx hb dX3_flip_86 (by decide) ?_
      refine va_last hx hb hK hP hD hS 5 1 rfl rfl h_t dX3_flip_95 (fun H locs hP hD hS => ?_)
      have hP : va_P D vwCl (wM K a (pM_T (pM_K (pM_P (pM_L s (vp_updL (gM_L s) t.toNatClampNeg (f_X3_amount ((gM_L s) t.toNatClampNeg) 52))) (upd (gM_P s) t.toNatClampNeg (f_X3_amount4 ((gM_P s) t.toNatClampNeg)))) (upd (gM_K s) t.toNatClampNeg (-((gM_K s) t.toNatClampNeg)))) (vp_updL (gM_T s) t.toNatClampNeg (-((gM_T s) t.toNatClampNeg))))) H := hP
      have hD : va_D A (wM K a (pM_T (pM_K (pM_P (pM_L s (vp_updL (gM_L s) t.toNatClampNeg (f_X3_amount ((gM_L s) t.toNatClampNeg) 52))) (upd (gM_P s) t.toNatClampNeg (f_X3_amount4 ((gM_P s) t.toNatClampNeg)))) (upd (gM_K s) t.toNatClampNeg (-((gM_K s) t.toNatClampNeg)))) (vp_updL (gM_T s) t.toNatClampNeg (-((gM_T s) t.toNatClampNeg))))) := hD
      exact rt_V (s1 := _) hx hb hr hlk hK hP hD hS (Eq.symm (Eq.trans (if_neg c_43) (Eq.trans (if_neg c_76) (rfl)))) dX3_flip_96

def f_X3_lean (s : SM) (t : Int32) : SM := let x1 := f_X3_thin ((gM_P s) t.toNatClampNeg); if (f_X3_amount ((gM_L s) t.toNatClampNeg) 52) = 0 then (if (f_X3_amount x1 23) = 0 then (pM_we (pM_ti s ((gM_L s) t.toNatClampNeg)) (Int64.toInt32 x1)) else (pM_we (pM_ti s ((gM_L s) t.toNatClampNeg)) (Int64.toInt32 ((x1 &&& (f_X3_sign 23)) ||| (f_X3_one 23))))) else (if (f_X3_amount x1 23) = 0 then (pM_we (pM_ti s ((((gM_L s) t.toNatClampNeg) &&& (f_X3_sign 52)) ||| (f_X3_one 52))) (Int64.toInt32 x1)) else (pM_we (pM_ti s ((((gM_L s) t.toNatClampNeg) &&& (f_X3_sign 52)) ||| (f_X3_one 52))) (Int64.toInt32 ((x1 &&& (f_X3_sign 23)) ||| (f_X3_one 23)))))
set_option maxHeartbeats 4000000 in
set_option maxRecDepth 100000 in
theorem c_X3_lean (l : Launch) (D : va_G) (K : ClassId × ClassId × ClassId) (a : Nat → Nat) (s : SM) (t : Int32) (h_t : vp_in t 8)  : MetV l yX3_lean wsX3_lean { frames := 2, cells := 0, slots := 0, locals := 42 } D vwCl (tyK K) (wM K a) [.ref (a 0), .int t] s (f_X3_lean s t) := by
  intro sz0
  refine en_W (cc := cX3_lean) (maxL := 4) (ret := none) (Qc := fun A => va_Qv (fun u0 : SM => u0 = f_X3_lean s t) (bs_a D vwCl (tyK K) (wM K a) A) A) (by decide) rfl (Nat.le_of_ble_eq_true rfl) ?_ sz0
  intro p e st m below meth c ls A hx hb hr hml hts hown hlk hA hK hP hD hS hl
  have hown : st.vm.findClass RX3 = some m.cls := hown
  have hl : lv_has ls 4 [(0, .ref (a 0)), (1, .int t)] := hl
  have hinX3 : ∀ w ∈ u_ws RX3 TX3 21, w ∈ wsX3_lean := fun w h => List.mem_cons_of_mem _ (List.mem_append_right _ h)
  have k17 := hts (.fieldLink RX3 17 "PuppetBarModel" "pull" "[I") (by decide +kernel)
  have k13 := hts (.fieldLink RX3 13 "PuppetBarModel" "length" "[J") (by decide +kernel)
  have k153 := hts (.fieldLink RX3 153 "PuppetBarModel" "tilt" "J") (by decide +kernel)
  have k157 := hts (.fieldLink RX3 157 "PuppetBarModel" "weight" "I") (by decide +kernel)
  refine lv_aload_n hx hb dX3_lean_0 rfl (lv_at hl 0 rfl) ?_
  refine va_get (D := D) (ci := 2) (C := RX3) (T := TX3) (N := 21) hx hb hts hinX3 hown hK hP 0 rfl rfl 2 (by decide) k17 (fun _ h9 => h9) rfl dX3_lean_1 ?_
  refine lv_iload_n hx hb dX3_lean_4 rfl (lv_at hl 1 rfl) ?_
  refine va_iald hx hb hK hP 3 0 rfl rfl h_t dX3_lean_5 ?_
  refine cl_Pl (c_X3_thin l _) ⟨hx, hb, hml, hown, hts⟩ (va_cwS 1 hts gX3_lean_X3_thin rfl rfl rfl (by decide +kernel) ⟨Nat.le_of_ble_eq_true rfl, Nat.le_of_ble_eq_true rfl⟩) rfl hl.1 rfl (Nat.le_of_ble_eq_true rfl) (Nat.zero_le _) (Nat.zero_le _) dX3_lean_6 ?_
  refine tpl (fun x1 ex1 => ?_)
  refine lv_lstore_n (lv' := [(2, .long x1), (0, .ref (a 0)), (1, .int t)]) hx hb dX3_lean_9 rfl hl (by decide) rfl (fun ls hl => ?_)
  refine lv_aload_n hx hb dX3_lean_10 rfl (lv_at hl 1 rfl) ?_
  refine lv_aload_n hx hb dX3_lean_11 rfl (lv_at hl 1 rfl) ?_
  refine va_get (D := D) (ci := 2) (C := RX3) (T := TX3) (N := 21) hx hb hts hinX3 hown hK hP 0 rfl rfl 1 (by decide) k13 (fun _ h9 => h9) rfl dX3_lean_12 ?_
  refine lv_iload_n hx hb dX3_lean_15 rfl (lv_at hl 2 rfl) ?_
  refine va_lald hx hb hK hP 2 1 rfl rfl h_t dX3_lean_16 ?_
  refine lv_bipush (v := 52) hx hb dX3_lean_17 (by decide) ?_
  refine cl_Pl (c_X3_amount l _ _) ⟨hx, hb, hml, hown, hts⟩ (va_cwS 2 hts gX3_lean_X3_amount rfl rfl rfl (by decide +kernel) ⟨Nat.le_of_ble_eq_true rfl, Nat.le_of_ble_eq_true rfl⟩) rfl hl.1 rfl (Nat.le_of_ble_eq_true rfl) (Nat.zero_le _) (Nat.zero_le _) dX3_lean_19 ?_
  refine lv_lconst (v := 0) hx hb dX3_lean_22 (by decide) ?_
  refine W.lcmp hx hb dX3_lean_23 ?_
  refine lv_if_ne (tgt := 36) hx hb dX3_lean_24 (by decide) (fun c_24 => ?_) (fun c_24 => ?_)
  · have c_24 := mt (lg_cmp_eq _ _).mpr c_24
    refine lv_aload_n hx hb dX3_lean_36 rfl (lv_at hl 1 rfl) ?_
    refine va_get (D := D) (ci := 2) (C := RX3) (T := TX3) (N := 21) hx hb hts hinX3 hown hK hP 0 rfl rfl 1 (by decide) k13 (fun _ h9 => h9) rfl dX3_lean_37 ?_
    refine lv_iload_n hx hb dX3_lean_40 rfl (lv_at hl 2 rfl) ?_
    refine va_lald hx hb hK hP 2 1 rfl rfl h_t dX3_lean_41 ?_
    refine lv_bipush (v := 52) hx hb dX3_lean_42 (by decide) ?_
    refine cl_Pl (c_X3_sign l _) ⟨hx, hb, hml, hown, hts⟩ (va_cwS 1 hts gX3_lean_X3_sign rfl rfl rfl (by decide +kernel) ⟨Nat.le_of_ble_eq_true rfl, Nat.le_of_ble_eq_true rfl⟩) rfl hl.1 rfl (Nat.le_of_ble_eq_true rfl) (Nat.zero_le _) (Nat.zero_le _) dX3_lean_44 ?_
    refine lv_land hx hb dX3_lean_47 ?_
    refine lv_bipush (v := 52) hx hb dX3_lean_48 (by decide) ?_
    refine cl_Pl (c_X3_one l _) ⟨hx, hb, hml, hown, hts⟩ (va_cwS 1 hts gX3_lean_X3_one rfl rfl rfl (by decide +kernel) ⟨Nat.le_of_ble_eq_true rfl, Nat.le_of_ble_eq_true rfl⟩) rfl hl.1 rfl (Nat.le_of_ble_eq_true rfl) (Nat.zero_le _) (Nat.zero_le _) dX3_lean_50 ?_
    refine lv_lor hx hb dX3_lean_53 ?_
    refine va_put (D := D) (ci := 2) (ty := .long) (C := RX3) (T := TX3) (N := 21) hx hb hts hinX3 tyX3 tyX3_ok nmX3 hown hK hP hD hS 0 rfl rfl 7 (by decide) k153 (fun _ h9 => h9) rfl (by decide +kernel) rfl rfl (Nat.le_of_ble_eq_true rfl) dX3_lean_54 (fun H locs hP hD hS => ?_)
    have hP : va_P D vwCl (wM K a (pM_ti s ((((gM_L s) t.toNatClampNeg) &&& (f_X3_sign 52)) ||| (f_X3_one 52)))) H := hP
    have hD : va_D A (wM K a (pM_ti s ((((gM_L s) t.toNatClampNeg) &&& (f_X3_sign 52)) ||| (f_X3_one 52)))) := hD
    refine lv_aload_n hx hb dX3_lean_57 rfl (lv_at hl 1 rfl) ?_
    refine lv_lload_n hx hb dX3_lean_58 rfl (lv_at hl 0 rfl) ?_
    refine lv_bipush (v := 23) hx hb dX3_lean_59 (by decide) ?_
    refine cl_Pl (c_X3_amount l _ _) ⟨hx, hb, hml, hown, hts⟩ (va_cwS 2 hts gX3_lean_X3_amount rfl rfl rfl (by decide +kernel) ⟨Nat.le_of_ble_eq_true rfl, Nat.le_of_ble_eq_true rfl⟩) rfl hl.1 rfl (Nat.le_of_ble_eq_true rfl) (Nat.zero_le _) (Nat.zero_le _) dX3_lean_61 ?_
    refine lv_lconst (v := 0) hx hb dX3_lean_64 (by decide) ?_
    refine W.lcmp hx hb dX3_lean_65 ?_
    refine lv_if_ne (tgt := 73) hx hb dX3_lean_66 (by decide) (fun c_66 => ?_) (fun c_66 => ?_)
    · have c_66 := mt (lg_cmp_eq _ _).mpr c_66
      refine lv_lload_n hx hb dX3_lean_73 rfl (lv_at hl 0 rfl) ?_
      refine lv_bipush (v := 23) hx hb dX3_lean_74 (by decide) ?_
      refine cl_Pl (c_X3_sign l _) ⟨hx, hb, hml, hown, hts⟩ (va_cwS 1 hts gX3_lean_X3_sign rfl rfl rfl (by decide +kernel) ⟨Nat.le_of_ble_eq_true rfl, Nat.le_of_ble_eq_true rfl⟩) rfl hl.1 rfl (Nat.le_of_ble_eq_true rfl) (Nat.zero_le _) (Nat.zero_le _) dX3_lean_76 ?_
      refine lv_land hx hb dX3_lean_79 ?_
      refine lv_bipush (v := 23) hx hb dX3_lean_80 (by decide) ?_
      refine cl_Pl (c_X3_one l _) ⟨hx, hb, hml, hown, hts⟩ (va_cwS 1 hts gX3_lean_X3_one rfl rfl rfl (by decide +kernel) ⟨Nat.le_of_ble_eq_true rfl, Nat.le_of_ble_eq_true rfl⟩) rfl hl.1 rfl (Nat.le_of_ble_eq_true rfl) (Nat.zero_le _) (Nat.zero_le _) dX3_lean_82 ?_
      refine lv_lor hx hb dX3_lean_85 ?_
      refine lv_l2i hx hb dX3_lean_86 rfl ?_
      refine va_put (D := D) (ci := 2) (ty := .int) (C := RX3) (T := TX3) (N := 21) hx hb hts hinX3 tyX3 tyX3_ok nmX3 hown hK hP hD hS 0 rfl rfl 8 (by decide) k157 (fun _ h9 => h9) rfl (by decide +kernel) rfl rfl (Nat.le_of_ble_eq_true rfl) dX3_lean_87 (fun H locs hP hD hS => ?_)
      have hP : va_P D vwCl (wM K a (pM_we (pM_ti s ((((gM_L s) t.toNatClampNeg) &&& (f_X3_sign 52)) ||| (f_X3_one 52))) (Int64.toInt32 ((x1 &&& (f_X3_sign 23)) ||| (f_X3_one 23))))) H := hP
      have hD : va_D A (wM K a (pM_we (pM_ti s ((((gM_L s) t.toNatClampNeg) &&& (f_X3_sign 52)) ||| (f_X3_one 52))) (Int64.toInt32 ((x1 &&& (f_X3_sign 23)) ||| (f_X3_one 23))))) := hD
      subst ex1
      exact rt_V (s1 := _) hx hb hr hlk hK hP hD hS (Eq.symm (Eq.trans (if_neg c_24) (Eq.trans (if_neg c_66) (rfl)))) dX3_lean_90
    · have c_66 := (lg_cmp_eq _ _).mp c_66
      refine lv_lload_n hx hb dX3_lean_69 rfl (lv_at hl 0 rfl) ?_
      refine lv_goto (tgt := 86) hx hb dX3_lean_70 (by decide) ?_
      refine lv_l2i hx hb dX3_lean_86 rfl ?_
      refine va_put (D := D) (ci := 2) (ty := .int) (C := RX3) (T := TX3) (N := 21) hx hb hts hinX3 tyX3 tyX3_ok nmX3 hown hK hP hD hS 0 rfl rfl 8 (by decide) k157 (fun _ h9 => h9) rfl (by decide +kernel) rfl rfl (Nat.le_of_ble_eq_true rfl) dX3_lean_87 (fun H locs hP hD hS => ?_)
      have hP : va_P D vwCl (wM K a (pM_we (pM_ti s ((((gM_L s) t.toNatClampNeg) &&& (f_X3_sign 52)) ||| (f_X3_one 52))) (Int64.toInt32 x1))) H := hP
      have hD : va_D A (wM K a (pM_we (pM_ti s ((((gM_L s) t.toNatClampNeg) &&& (f_X3_sign 52)) ||| (f_X3_one 52))) (Int64.toInt32 x1))) := hD
      subst ex1
      exact rt_V (s1 := _) hx hb hr hlk hK hP hD hS (Eq.symm (Eq.trans (if_neg c_24) (Eq.trans (if_pos c_66) (rfl)))) dX3_lean_90
  · have c_24 := (lg_cmp_eq _ _).mp c_24
    refine lv_aload_n hx hb dX3_lean_27 rfl (lv_at hl 1 rfl) ?_
    refine va_get (D := D) (ci := 2) (C := RX3) (T := TX3) (N := 21) hx hb hts hinX3 hown hK hP 0 rfl rfl 1 (by decide) k13 (fun _ h9 => h9) rfl dX3_lean_28 ?_
    refine lv_iload_n hx hb dX3_lean_31 rfl (lv_at hl 2 rfl) ?_
    refine va_lald hx hb hK hP 2 1 rfl rfl h_t dX3_lean_32 ?_
    refine lv_goto (tgt := 54) hx hb dX3_lean_33 (by decide) ?_
    refine va_put (D := D) (ci := 2) (ty := .long) (C := RX3) (T := TX3) (N := 21) hx hb hts hinX3 tyX3 tyX3_ok nmX3 hown hK hP hD hS 0 rfl rfl 7 (by decide) k153 (fun _ h9 => h9) rfl (by decide +kernel) rfl rfl (Nat.le_of_ble_eq_true rfl) dX3_lean_54 (fun H locs hP hD hS => ?_)
    have hP : va_P D vwCl (wM K a (pM_ti s ((gM_L s) t.toNatClampNeg))) H := hP
    have hD : va_D A (wM K a (pM_ti s ((gM_L s) t.toNatClampNeg))) := hD
    refine lv_aload_n hx hb dX3_lean_57 rfl (lv_at hl 1 rfl) ?_
    refine lv_lload_n hx hb dX3_lean_58 rfl (lv_at hl 0 rfl) ?_
    refine lv_bipush (v := 23) hx hb dX3_lean_59 (by decide) ?_
    refine cl_Pl (c_X3_amount l _ _) ⟨hx, hb, hml, hown, hts⟩ (va_cwS 2 hts gX3_lean_X3_amount rfl rfl rfl (by decide +kernel) ⟨Nat.le_of_ble_eq_true rfl, Nat.le_of_ble_eq_true rfl⟩) rfl hl.1 rfl (Nat.le_of_ble_eq_true rfl) (Nat.zero_le _) (Nat.zero_le _) dX3_lean_61 ?_
    refine lv_lconst (v := 0) hx hb dX3_lean_64 (by decide) ?_
    refine W.lcmp hx hb dX3_lean_65 ?_
    refine lv_if_ne (tgt := 73) hx hb dX3_lean_66 (by decide) (fun c_66 => ?_) (fun c_66 => ?_)
    · have c_66 := mt (lg_cmp_eq _ _).mpr c_66
      refine lv_lload_n hx hb dX3_lean_73 rfl (lv_at hl 0 rfl) ?_
      refine lv_bipush (v := 23) hx hb dX3_lean_74 (by decide) ?_
      refine cl_Pl (c_X3_sign l _) ⟨hx, hb, hml, hown, hts⟩ (va_cwS 1 hts gX3_lean_X3_sign rfl rfl rfl (by decide +kernel) ⟨Nat.le_of_ble_eq_true rfl, Nat.le_of_ble_eq_true rfl⟩) rfl hl.1 rfl (Nat.le_of_ble_eq_true rfl) (Nat.zero_le _) (Nat.zero_le _) dX3_lean_76 ?_
      refine lv_land hx hb dX3_lean_79 ?_
      refine lv_bipush (v := 23) hx hb dX3_lean_80 (by decide) ?_
      refine cl_Pl (c_X3_one l _) ⟨hx, hb, hml, hown, hts⟩ (va_cwS 1 hts gX3_lean_X3_one rfl rfl rfl (by decide +kernel) ⟨Nat.le_of_ble_eq_true rfl, Nat.le_of_ble_eq_true rfl⟩) rfl hl.1 rfl (Nat.le_of_ble_eq_true rfl) (Nat.zero_le _) (Nat.zero_le _) dX3_lean_82 ?_
      refine lv_lor hx hb dX3_lean_85 ?_
      refine lv_l2i hx hb dX3_lean_86 rfl ?_
      refine va_put (D := D) (ci := 2) (ty := .int) (C := RX3) (T := TX3) (N := 21) hx hb hts hinX3 tyX3 tyX3_ok nmX3 hown hK hP hD hS 0 rfl rfl 8 (by decide) k157 (fun _ h9 => h9) rfl (by decide +kernel) rfl rfl (Nat.le_of_ble_eq_true rfl) dX3_lean_87 (fun H locs hP hD hS => ?_)
      have hP : va_P D vwCl (wM K a (pM_we (pM_ti s ((gM_L s) t.toNatClampNeg)) (Int64.toInt32 ((x1 &&& (f_X3_sign 23)) ||| (f_X3_one 23))))) H := hP
      have hD : va_D A (wM K a (pM_we (pM_ti s ((gM_L s) t.toNatClampNeg)) (Int64.toInt32 ((x1 &&& (f_X3_sign 23)) ||| (f_X3_one 23))))) := hD
      subst ex1
      exact rt_V (s1 := _) hx hb hr hlk hK hP hD hS (Eq.symm (Eq.trans (if_pos c_24) (Eq.trans (if_neg c_66) (rfl)))) dX3_lean_90
    · have c_66 := (lg_cmp_eq _ _).mp c_66
      refine lv_lload_n hx hb dX3_lean_69 rfl (lv_at hl 0 rfl) ?_
      refine lv_goto (tgt := 86) hx hb dX3_lean_70 (by decide) ?_
      refine lv_l2i hx hb dX3_lean_86 rfl ?_
      refine va_put (D := D) (ci := 2) (ty := .int) (C := RX3) (T := TX3) (N := 21) hx hb hts hinX3 tyX3 tyX3_ok nmX3 hown hK hP hD hS 0 rfl rfl 8 (by decide) k157 (fun _ h9 => h9) rfl (by decide +kernel) rfl rfl (Nat.le_of_ble_eq_true rfl) dX3_lean_87 (fun H locs hP hD hS => ?_)
      have hP : va_P D vwCl (wM K a (pM_we (pM_ti s ((gM_L s) t.toNatClampNeg)) (Int64.toInt32 x1))) H := hP
      have hD : va_D A (wM K a (pM_we (pM_ti s ((gM_L s) t.toNatClampNeg)) (Int64.toInt32 x1))) := hD
      subst ex1
      exact rt_V (s1 := _) hx hb hr hlk hK hP hD hS (Eq.symm (Eq.trans (if_pos c_24) (Eq.trans (if_pos c_66) (rfl)))) dX3_lean_90

def f_X3_gather (s : SM) (t : Int32) : SM := if 0 ≤ ((gM_K s) t.toNatClampNeg) then (let x1 := (gM_K s) t.toNatClampNeg; if 0 ≤ ((gM_T s) t.toNatClampNeg) then (let x2 := (gM_T s) t.toNatClampNeg; if x1 ≤ (gM_co s) then (if (gM_tu s) ≤ x2 then (pM_tu (pM_co (pM_we (pM_ti s (f_X3_greater (gM_ti s) (f_X3_amount ((gM_L s) t.toNatClampNeg) 52))) (f_X3_lesser4 (gM_we s) (f_X3_amount4 ((gM_P s) t.toNatClampNeg)))) (gM_co s)) (gM_tu s)) else (pM_tu (pM_co (pM_we (pM_ti s (f_X3_greater (gM_ti s) (f_X3_amount ((gM_L s) t.toNatClampNeg) 52))) (f_X3_lesser4 (gM_we s) (f_X3_amount4 ((gM_P s) t.toNatClampNeg)))) (gM_co s)) x2)) else (if (gM_tu s) ≤ x2 then (pM_tu (pM_co (pM_we (pM_ti s (f_X3_greater (gM_ti s) (f_X3_amount ((gM_L s) t.toNatClampNeg) 52))) (f_X3_lesser4 (gM_we s) (f_X3_amount4 ((gM_P s) t.toNatClampNeg)))) x1) (gM_tu s)) else (pM_tu (pM_co (pM_we (pM_ti s (f_X3_greater (gM_ti s) (f_X3_amount ((gM_L s) t.toNatClampNeg) 52))) (f_X3_lesser4 (gM_we s) (f_X3_amount4 ((gM_P s) t.toNatClampNeg)))) x1) x2))) else (let x3 := -((gM_T s) t.toNatClampNeg); if x1 ≤ (gM_co s) then (if (gM_tu s) ≤ x3 then (pM_tu (pM_co (pM_we (pM_ti s (f_X3_greater (gM_ti s) (f_X3_amount ((gM_L s) t.toNatClampNeg) 52))) (f_X3_lesser4 (gM_we s) (f_X3_amount4 ((gM_P s) t.toNatClampNeg)))) (gM_co s)) (gM_tu s)) else (pM_tu (pM_co (pM_we (pM_ti s (f_X3_greater (gM_ti s) (f_X3_amount ((gM_L s) t.toNatClampNeg) 52))) (f_X3_lesser4 (gM_we s) (f_X3_amount4 ((gM_P s) t.toNatClampNeg)))) (gM_co s)) x3)) else (if (gM_tu s) ≤ x3 then (pM_tu (pM_co (pM_we (pM_ti s (f_X3_greater (gM_ti s) (f_X3_amount ((gM_L s) t.toNatClampNeg) 52))) (f_X3_lesser4 (gM_we s) (f_X3_amount4 ((gM_P s) t.toNatClampNeg)))) x1) (gM_tu s)) else (pM_tu (pM_co (pM_we (pM_ti s (f_X3_greater (gM_ti s) (f_X3_amount ((gM_L s) t.toNatClampNeg) 52))) (f_X3_lesser4 (gM_we s) (f_X3_amount4 ((gM_P s) t.toNatClampNeg)))) x1) x3)))) else (let x4 := -((gM_K s) t.toNatClampNeg); if 0 ≤ ((gM_T s) t.toNatClampNeg) then (let x5 := (gM_T s) t.toNatClampNeg; if x4 ≤ (gM_co s) then (if (gM_tu s) ≤ x5 then (pM_tu (pM_co (pM_we (pM_ti s (f_X3_greater (gM_ti s) (f_X3_amount ((gM_L s) t.toNatClampNeg) 52))) (f_X3_lesser4 (gM_we s) (f_X3_amount4 ((gM_P s) t.toNatClampNeg)))) (gM_co s)) (gM_tu s)) else (pM_tu (pM_co (pM_we (pM_ti s (f_X3_greater (gM_ti s) (f_X3_amount ((gM_L s) t.toNatClampNeg) 52))) (f_X3_lesser4 (gM_we s) (f_X3_amount4 ((gM_P s) t.toNatClampNeg)))) (gM_co s)) x5)) else (if (gM_tu s) ≤ x5 then (pM_tu (pM_co (pM_we (pM_ti s (f_X3_greater (gM_ti s) (f_X3_amount ((gM_L s) t.toNatClampNeg) 52))) (f_X3_lesser4 (gM_we s) (f_X3_amount4 ((gM_P s) t.toNatClampNeg)))) x4) (gM_tu s)) else (pM_tu (pM_co (pM_we (pM_ti s (f_X3_greater (gM_ti s) (f_X3_amount ((gM_L s) t.toNatClampNeg) 52))) (f_X3_lesser4 (gM_we s) (f_X3_amount4 ((gM_P s) t.toNatClampNeg)))) x4) x5))) else (let x6 := -((gM_T s) t.toNatClampNeg); if x4 ≤ (gM_co s) then (if (gM_tu s) ≤ x6 then (pM_tu (pM_co (pM_we (pM_ti s (f_X3_greater (gM_ti s) (f_X3_amount ((gM_L s) t.toNatClampNeg) 52))) (f_X3_lesser4 (gM_we s) (f_X3_amount4 ((gM_P s) t.toNatClampNeg)))) (gM_co s)) (gM_tu s)) else (pM_tu (pM_co (pM_we (pM_ti s (f_X3_greater (gM_ti s) (f_X3_amount ((gM_L s) t.toNatClampNeg) 52))) (f_X3_lesser4 (gM_we s) (f_X3_amount4 ((gM_P s) t.toNatClampNeg)))) (gM_co s)) x6)) else (if (gM_tu s) ≤ x6 then (pM_tu (pM_co (pM_we (pM_ti s (f_X3_greater (gM_ti s) (f_X3_amount ((gM_L s) t.toNatClampNeg) 52))) (f_X3_lesser4 (gM_we s) (f_X3_amount4 ((gM_P s) t.toNatClampNeg)))) x4) (gM_tu s)) else (pM_tu (pM_co (pM_we (pM_ti s (f_X3_greater (gM_ti s) (f_X3_amount ((gM_L s) t.toNatClampNeg) 52))) (f_X3_lesser4 (gM_we s) (f_X3_amount4 ((gM_P s) t.toNatClampNeg)))) x4) x6))))
set_option maxHeartbeats 4000000 in
set_option maxRecDepth 100000 in
theorem c_X3_gather (l : Launch) (D : va_G) (K : ClassId × ClassId × ClassId) (a : Nat → Nat) (s : SM) (t : Int32) (h_t : vp_in t 8)  : MetV l yX3_gather wsX3_gather { frames := 2, cells := 0, slots := 0, locals := 44 } D vwCl (tyK K) (wM K a) [.ref (a 0), .int t] s (f_X3_gather s t) := by
  intro sz0
  refine en_W (cc := cX3_gather) (maxL := 5) (ret := none) (Qc := fun A => va_Qv (fun u0 : SM => u0 = f_X3_gather s t) (bs_a D vwCl (tyK K) (wM K a) A) A) (by decide) rfl (Nat.le_of_ble_eq_true rfl) ?_ sz0
  intro p e st m below meth c ls A hx hb hr hml hts hown hlk hA hK hP hD hS hl
  have hown : st.vm.findClass RX3 = some m.cls := hown
  have hl : lv_has ls 5 [(0, .ref (a 0)), (1, .int t)] := hl
  have hinX3 : ∀ w ∈ u_ws RX3 TX3 21, w ∈ wsX3_gather := fun w h => List.mem_cons_of_mem _ (List.mem_append_right _ h)
  have k21 := hts (.fieldLink RX3 21 "PuppetBarModel" "knots" "[I") (by decide +kernel)
  have k24 := hts (.fieldLink RX3 24 "PuppetBarModel" "twist" "[J") (by decide +kernel)
  have k153 := hts (.fieldLink RX3 153 "PuppetBarModel" "tilt" "J") (by decide +kernel)
  have k13 := hts (.fieldLink RX3 13 "PuppetBarModel" "length" "[J") (by decide +kernel)
  have k157 := hts (.fieldLink RX3 157 "PuppetBarModel" "weight" "I") (by decide +kernel)
  have k17 := hts (.fieldLink RX3 17 "PuppetBarModel" "pull" "[I") (by decide +kernel)
  have k161 := hts (.fieldLink RX3 161 "PuppetBarModel" "count" "I") (by decide +kernel)
  have k164 := hts (.fieldLink RX3 164 "PuppetBarModel" "turn" "J") (by decide +kernel)
  refine lv_aload_n hx hb dX3_gather_0 rfl (lv_at hl 0 rfl) ?_
  refine va_get (D := D) (ci := 2) (C := RX3) (T := TX3) (N := 21) hx hb hts hinX3 hown hK hP 0 rfl rfl 3 (by decide) k21 (fun _ h9 => h9) rfl dX3_gather_1 ?_
  refine lv_iload_n hx hb dX3_gather_4 rfl (lv_at hl 1 rfl) ?_
  refine va_iald hx hb hK hP 4 0 rfl rfl h_t dX3_gather_5 ?_
  refine lv_if_ge (tgt := 19) hx hb dX3_gather_6 (by decide) (fun c_6 => ?_) (fun c_6 => ?_)
  · refine lv_aload_n hx hb dX3_gather_19 rfl (lv_at hl 0 rfl) ?_
    refine va_get (D := D) (ci := 2) (C := RX3) (T := TX3) (N := 21) hx hb hts hinX3 hown hK hP 0 rfl rfl 3 (by decide) k21 (fun _ h9 => h9) rfl dX3_gather_20 ?_
    refine lv_iload_n hx hb dX3_gather_23 rfl (lv_at hl 1 rfl) ?_
    refine va_iald hx hb hK hP 4 0 rfl rfl h_t dX3_gather_24 ?_
    refine tpi (fun x1 ex1 => ?_)
    refine lv_istore_n (lv' := [(2, .int x1), (0, .ref (a 0)), (1, .int t)]) hx hb dX3_gather_25 rfl hl (by decide) rfl (fun ls hl => ?_)
    refine lv_aload_n hx hb dX3_gather_26 rfl (lv_at hl 1 rfl) ?_
    refine va_get (D := D) (ci := 2) (C := RX3) (T := TX3) (N := 21) hx hb hts hinX3 hown hK hP 0 rfl rfl 4 (by decide) k24 (fun _ h9 => h9) rfl dX3_gather_27 ?_
    refine lv_iload_n hx hb dX3_gather_30 rfl (lv_at hl 2 rfl) ?_
    refine va_lald hx hb hK hP 5 1 rfl rfl h_t dX3_gather_31 ?_
    refine lv_lconst (v := 0) hx hb dX3_gather_32 (by decide) ?_
    refine W.lcmp hx hb dX3_gather_33 ?_
    refine lv_if_ge (tgt := 47) hx hb dX3_gather_34 (by decide) (fun c_34 => ?_) (fun c_34 => ?_)
    · have c_34 := (lg_cmp_ge _ _).mp c_34
      refine lv_aload_n hx hb dX3_gather_47 rfl (lv_at hl 1 rfl) ?_
      refine va_get (D := D) (ci := 2) (C := RX3) (T := TX3) (N := 21) hx hb hts hinX3 hown hK hP 0 rfl rfl 4 (by decide) k24 (fun _ h9 => h9) rfl dX3_gather_48 ?_
      refine lv_iload_n hx hb dX3_gather_51 rfl (lv_at hl 2 rfl) ?_
      refine va_lald hx hb hK hP 5 1 rfl rfl h_t dX3_gather_52 ?_
      refine tpl (fun x2 ex2 => ?_)
      refine lv_lstore_n (lv' := [(3, .long x2), (2, .int x1), (0, .ref (a 0)), (1, .int t)]) hx hb dX3_gather_53 rfl hl (by decide) rfl (fun ls hl => ?_)
      refine lv_aload_n hx hb dX3_gather_54 rfl (lv_at hl 2 rfl) ?_
      refine lv_aload_n hx hb dX3_gather_55 rfl (lv_at hl 2 rfl) ?_
      refine va_get (D := D) (ci := 2) (C := RX3) (T := TX3) (N := 21) hx hb hts hinX3 hown hK hP 0 rfl rfl 7 (by decide) k153 (fun _ h9 => h9) rfl dX3_gather_56 ?_
      refine lv_aload_n hx hb dX3_gather_59 rfl (lv_at hl 2 rfl) ?_
      refine va_get (D := D) (ci := 2) (C := RX3) (T := TX3) (N := 21) hx hb hts hinX3 hown hK hP 0 rfl rfl 1 (by decide) k13 (fun _ h9 => h9) rfl dX3_gather_60 ?_
      refine lv_iload_n hx hb dX3_gather_63 rfl (lv_at hl 3 rfl) ?_
      refine va_lald hx hb hK hP 2 1 rfl rfl h_t dX3_gather_64 ?_
      refine lv_bipush (v := 52) hx hb dX3_gather_65 (by decide) ?_
      refine cl_Pl (c_X3_amount l _ _) ⟨hx, hb, hml, hown, hts⟩ (va_cwS 2 hts gX3_gather_X3_amount rfl rfl rfl (by decide +kernel) ⟨Nat.le_of_ble_eq_true rfl, Nat.le_of_ble_eq_true rfl⟩) rfl hl.1 rfl (Nat.le_of_ble_eq_true rfl) (Nat.zero_le _) (Nat.zero_le _) dX3_gather_67 ?_
      refine cl_Pl (c_X3_greater l _ _) ⟨hx, hb, hml, hown, hts⟩ (va_cwS 2 hts gX3_gather_X3_greater rfl rfl rfl (by decide +kernel) ⟨Nat.le_of_ble_eq_true rfl, Nat.le_of_ble_eq_true rfl⟩) rfl hl.1 rfl (Nat.le_of_ble_eq_true rfl) (Nat.zero_le _) (Nat.zero_le _) dX3_gather_70 ?_
      refine va_put (D := D) (ci := 2) (ty := .long) (C := RX3) (T := TX3) (N := 21) hx hb hts hinX3 tyX3 tyX3_ok nmX3 hown hK hP hD hS 0 rfl rfl 7 (by decide) k153 (fun _ h9 => h9) rfl (by decide +kernel) rfl rfl (Nat.le_of_ble_eq_true rfl) dX3_gather_73 (fun H locs hP hD hS => ?_)
      have hP : va_P D vwCl (wM K a (pM_ti s (f_X3_greater (gM_ti s) (f_X3_amount ((gM_L s) t.toNatClampNeg) 52)))) H := hP
      have hD : va_D A (wM K a (pM_ti s (f_X3_greater (gM_ti s) (f_X3_amount ((gM_L s) t.toNatClampNeg) 52)))) := hD
      refine lv_aload_n hx hb dX3_gather_76 rfl (lv_at hl 2 rfl) ?_
      refine lv_aload_n hx hb dX3_gather_77 rfl (lv_at hl 2 rfl) ?_
      refine va_get (D := D) (ci := 2) (C := RX3) (T := TX3) (N := 21) hx hb hts hinX3 hown hK hP 0 rfl rfl 8 (by decide) k157 (fun _ h9 => h9) rfl dX3_gather_78 ?_
      refine lv_aload_n hx hb dX3_gather_81 rfl (lv_at hl 2 rfl) ?_
      refine va_get (D := D) (ci := 2) (C := RX3) (T := TX3) (N := 21) hx hb hts hinX3 hown hK hP 0 rfl rfl 2 (by decide) k17 (fun _ h9 => h9) rfl dX3_gather_82 ?_
      refine lv_iload_n hx hb dX3_gather_85 rfl (lv_at hl 3 rfl) ?_
      refine va_iald hx hb hK hP 3 0 rfl rfl h_t dX3_gather_86 ?_
      refine cl_Pi (c_X3_amount4 l _) ⟨hx, hb, hml, hown, hts⟩ (va_cwS 1 hts gX3_gather_X3_amount4 rfl rfl rfl (by decide +kernel) ⟨Nat.le_of_ble_eq_true rfl, Nat.le_of_ble_eq_true rfl⟩) rfl hl.1 rfl (Nat.le_of_ble_eq_true rfl) (Nat.zero_le _) (Nat.zero_le _) dX3_gather_87 ?_
      refine cl_Pi (c_X3_lesser4 l _ _) ⟨hx, hb, hml, hown, hts⟩ (va_cwS 2 hts gX3_gather_X3_lesser4 rfl rfl rfl (by decide +kernel) ⟨Nat.le_of_ble_eq_true rfl, Nat.le_of_ble_eq_true rfl⟩) rfl hl.1 rfl (Nat.le_of_ble_eq_true rfl) (Nat.zero_le _) (Nat.zero_le _) dX3_gather_90 ?_
      refine va_put (D := D) (ci := 2) (ty := .int) (C := RX3) (T := TX3) (N := 21) hx hb hts hinX3 tyX3 tyX3_ok nmX3 hown hK hP hD hS 0 rfl rfl 8 (by decide) k157 (fun _ h9 => h9) rfl (by decide +kernel) rfl rfl (Nat.le_of_ble_eq_true rfl) dX3_gather_93 (fun H locs hP hD hS => ?_)
      have hP : va_P D vwCl (wM K a (pM_we (pM_ti s (f_X3_greater (gM_ti s) (f_X3_amount ((gM_L s) t.toNatClampNeg) 52))) (f_X3_lesser4 (gM_we s) (f_X3_amount4 ((gM_P s) t.toNatClampNeg))))) H := hP
      have hD : va_D A (wM K a (pM_we (pM_ti s (f_X3_greater (gM_ti s) (f_X3_amount ((gM_L s) t.toNatClampNeg) 52))) (f_X3_lesser4 (gM_we s) (f_X3_amount4 ((gM_P s) t.toNatClampNeg))))) := hD
      refine lv_aload_n hx hb dX3_gather_96 rfl (lv_at hl 2 rfl) ?_
      refine lv_iload_n hx hb dX3_gather_97 rfl (lv_at hl 1 rfl) ?_
      refine lv_aload_n hx hb dX3_gather_98 rfl (lv_at hl 2 rfl) ?_
      refine va_get (D := D) (ci := 2) (C := RX3) (T := TX3) (N := 21) hx hb hts hinX3 hown hK hP 0 rfl rfl 9 (by decide) k161 (fun _ h9 => h9) rfl dX3_gather_99 ?_
      refine lv_icmp_le (tgt := 109) hx hb dX3_gather_102 (by decide) (fun c_102 => ?_) (fun c_102 => ?_)
      · refine lv_aload_n hx hb dX3_gather_109 rfl (lv_at hl 2 rfl) ?_
        refine va_get (D := D) (ci := 2) (C := RX3) (T := TX3) (N := 21) hx hb hts hinX3 hown hK hP 0 rfl rfl 9 (by decide) k161 (fun _ h9 => h9) rfl dX3_gather_110 ?_
        refine va_put (D := D) (ci := 2) (ty := .int) (C := RX3) (T := TX3) (N := 21) hx hb hts hinX3 tyX3 tyX3_ok nmX3 hown hK hP hD hS 0 rfl rfl 9 (by decide) k161 (fun _ h9 => h9) rfl (by decide +kernel) rfl rfl (Nat.le_of_ble_eq_true rfl) dX3_gather_113 (fun H locs hP hD hS => ?_)
        have hP : va_P D vwCl (wM K a (pM_co (pM_we (pM_ti s (f_X3_greater (gM_ti s) (f_X3_amount ((gM_L s) t.toNatClampNeg) 52))) (f_X3_lesser4 (gM_we s) (f_X3_amount4 ((gM_P s) t.toNatClampNeg)))) (gM_co s))) H := hP
        have hD : va_D A (wM K a (pM_co (pM_we (pM_ti s (f_X3_greater (gM_ti s) (f_X3_amount ((gM_L s) t.toNatClampNeg) 52))) (f_X3_lesser4 (gM_we s) (f_X3_amount4 ((gM_P s) t.toNatClampNeg)))) (gM_co s))) := hD
        refine lv_aload_n hx hb dX3_gather_116 rfl (lv_at hl 2 rfl) ?_
        refine lv_lload_n hx hb dX3_gather_117 rfl (lv_at hl 0 rfl) ?_
        refine lv_aload_n hx hb dX3_gather_118 rfl (lv_at hl 2 rfl) ?_
        refine va_get (D := D) (ci := 2) (C := RX3) (T := TX3) (N := 21) hx hb hts hinX3 hown hK hP 0 rfl rfl 10 (by decide) k164 (fun _ h9 => h9) rfl dX3_gather_119 ?_
        refine W.lcmp hx hb dX3_gather_122 ?_
        refine lv_if_ge (tgt := 130) hx hb dX3_gather_123 (by decide) (fun c_123 => ?_) (fun c_123 => ?_)
        · have c_123 := (lg_cmp_ge _ _).mp c_123
          refine lv_aload_n hx hb dX3_gather_130 rfl (lv_at hl 2 rfl) ?_
          refine va_get (D := D) (ci := 2) (C := RX3) (T := TX3) (N := 21) hx hb hts hinX3 hown hK hP 0 rfl rfl 10 (by decide) k164 (fun _ h9 => h9) rfl dX3_gather_131 ?_
          refine va_put (D := D) (ci := 2) (ty := .long) (C := RX3) (T := TX3) (N := 21) hx hb hts hinX3 tyX3 tyX3_ok nmX3 hown hK hP hD hS 0 rfl rfl 10 (by decide) k164 (fun _ h9 => h9) rfl (by decide +kernel) rfl rfl (Nat.le_of_ble_eq_true rfl) dX3_gather_134 (fun H locs hP hD hS => ?_)
          have hP : va_P D vwCl (wM K a (pM_tu (pM_co (pM_we (pM_ti s (f_X3_greater (gM_ti s) (f_X3_amount ((gM_L s) t.toNatClampNeg) 52))) (f_X3_lesser4 (gM_we s) (f_X3_amount4 ((gM_P s) t.toNatClampNeg)))) (gM_co s)) (gM_tu s))) H := hP
          have hD : va_D A (wM K a (pM_tu (pM_co (pM_we (pM_ti s (f_X3_greater (gM_ti s) (f_X3_amount ((gM_L s) t.toNatClampNeg) 52))) (f_X3_lesser4 (gM_we s) (f_X3_amount4 ((gM_P s) t.toNatClampNeg)))) (gM_co s)) (gM_tu s))) := hD
          subst ex2 ex1
          exact rt_V (s1 := _) hx hb hr hlk hK hP hD hS (Eq.symm (Eq.trans (if_pos c_6) (Eq.trans (if_pos c_34) (Eq.trans (if_pos c_102) (Eq.trans (if_pos c_123) (rfl)))))) dX3_gather_137
        · have c_123 := mt (lg_cmp_ge _ _).mpr c_123
          refine lv_lload_n hx hb dX3_gather_126 rfl (lv_at hl 0 rfl) ?_
          refine lv_goto (tgt := 134) hx hb dX3_gather_127 (by decide) ?_
          refine va_put (D := D) (ci := 2) (ty := .long) (C := RX3) (T := TX3) (N := 21) hx hb hts hinX3 tyX3 tyX3_ok nmX3 hown hK hP hD hS 0 rfl rfl 10 (by decide) k164 (fun _ h9 => h9) rfl (by decide +kernel) rfl rfl (Nat.le_of_ble_eq_true rfl) dX3_gather_134 (fun H locs hP hD hS => ?_)
          have hP : va_P D vwCl (wM K a (pM_tu (pM_co (pM_we (pM_ti s (f_X3_greater (gM_ti s) (f_X3_amount ((gM_L s) t.toNatClampNeg) 52))) (f_X3_lesser4 (gM_we s) (f_X3_amount4 ((gM_P s) t.toNatClampNeg)))) (gM_co s)) x2)) H := hP
          have hD : va_D A (wM K a (pM_tu (pM_co (pM_we (pM_ti s (f_X3_greater (gM_ti s) (f_X3_amount ((gM_L s) t.toNatClampNeg) 52))) (f_X3_lesser4 (gM_we s) (f_X3_amount4 ((gM_P s) t.toNatClampNeg)))) (gM_co s)) x2)) := hD
          subst ex2 ex1
          exact rt_V (s1 := _) hx hb hr hlk hK hP hD hS (Eq.symm (Eq.trans (if_pos c_6) (Eq.trans (if_pos c_34) (Eq.trans (if_pos c_102) (Eq.trans (if_neg c_123) (rfl)))))) dX3_gather_137
      · refine lv_iload_n hx hb dX3_gather_105 rfl (lv_at hl 1 rfl) ?_
        refine lv_goto (tgt := 113) hx hb dX3_gather_106 (by decide) ?_
        refine va_put (D := D) (ci := 2) (ty := .int) (C := RX3) (T := TX3) (N := 21) hx hb hts hinX3 tyX3 tyX3_ok nmX3 hown hK hP hD hS 0 rfl rfl 9 (by decide) k161 (fun _ h9 => h9) rfl (by decide +kernel) rfl rfl (Nat.le_of_ble_eq_true rfl) dX3_gather_113 (fun H locs hP hD hS => ?_)
        have hP : va_P D vwCl (wM K a (pM_co (pM_we (pM_ti s (f_X3_greater (gM_ti s) (f_X3_amount ((gM_L s) t.toNatClampNeg) 52))) (f_X3_lesser4 (gM_we s) (f_X3_amount4 ((gM_P s) t.toNatClampNeg)))) x1)) H := hP
        have hD : va_D A (wM K a (pM_co (pM_we (pM_ti s (f_X3_greater (gM_ti s) (f_X3_amount ((gM_L s) t.toNatClampNeg) 52))) (f_X3_lesser4 (gM_we s) (f_X3_amount4 ((gM_P s) t.toNatClampNeg)))) x1)) := hD
        refine lv_aload_n hx hb dX3_gather_116 rfl (lv_at hl 2 rfl) ?_
        refine lv_lload_n hx hb dX3_gather_117 rfl (lv_at hl 0 rfl) ?_
        refine lv_aload_n hx hb dX3_gather_118 rfl (lv_at hl 2 rfl) ?_
        refine va_get (D := D) (ci := 2) (C := RX3) (T := TX3) (N := 21) hx hb hts hinX3 hown hK hP 0 rfl rfl 10 (by decide) k164 (fun _ h9 => h9) rfl dX3_gather_119 ?_
        refine W.lcmp hx hb dX3_gather_122 ?_
        refine lv_if_ge (tgt := 130) hx hb dX3_gather_123 (by decide) (fun c_123 => ?_) (fun c_123 => ?_)
        · have c_123 := (lg_cmp_ge _ _).mp c_123
          refine lv_aload_n hx hb dX3_gather_130 rfl (lv_at hl 2 rfl) ?_
          refine va_get (D := D) (ci := 2) (C := RX3) (T := TX3) (N := 21) hx hb hts hinX3 hown hK hP 0 rfl rfl 10 (by decide) k164 (fun _ h9 => h9) rfl dX3_gather_131 ?_
          refine va_put (D := D) (ci := 2) (ty := .long) (C := RX3) (T := TX3) (N := 21) hx hb hts hinX3 tyX3 tyX3_ok nmX3 hown hK hP hD hS 0 rfl rfl 10 (by decide) k164 (fun _ h9 => h9) rfl (by decide +kernel) rfl rfl (Nat.le_of_ble_eq_true rfl) dX3_gather_134 (fun H locs hP hD hS => ?_)
          have hP : va_P D vwCl (wM K a (pM_tu (pM_co (pM_we (pM_ti s (f_X3_greater (gM_ti s) (f_X3_amount ((gM_L s) t.toNatClampNeg) 52))) (f_X3_lesser4 (gM_we s) (f_X3_amount4 ((gM_P s) t.toNatClampNeg)))) x1) (gM_tu s))) H := hP
          have hD : va_D A (wM K a (pM_tu (pM_co (pM_we (pM_ti s (f_X3_greater (gM_ti s) (f_X3_amount ((gM_L s) t.toNatClampNeg) 52))) (f_X3_lesser4 (gM_we s) (f_X3_amount4 ((gM_P s) t.toNatClampNeg)))) x1) (gM_tu s))) := hD
          subst ex2 ex1
          exact rt_V (s1 := _) hx hb hr hlk hK hP hD hS (Eq.symm (Eq.trans (if_pos c_6) (Eq.trans (if_pos c_34) (Eq.trans (if_neg c_102) (Eq.trans (if_pos c_123) (rfl)))))) dX3_gather_137
        · have c_123 := mt (lg_cmp_ge _ _).mpr c_123
          refine lv_lload_n hx hb dX3_gather_126 rfl (lv_at hl 0 rfl) ?_
          refine lv_goto (tgt := 134) hx hb dX3_gather_127 (by decide) ?_
          refine va_put (D := D) (ci := 2) (ty := .long) (C := RX3) (T := TX3) (N := 21) hx hb hts hinX3 tyX3 tyX3_ok nmX3 hown hK hP hD hS 0 rfl rfl 10 (by decide) k164 (fun _ h9 => h9) rfl (by decide +kernel) rfl rfl (Nat.le_of_ble_eq_true rfl) dX3_gather_134 (fun H locs hP hD hS => ?_)
          have hP : va_P D vwCl (wM K a (pM_tu (pM_co (pM_we (pM_ti s (f_X3_greater (gM_ti s) (f_X3_amount ((gM_L s) t.toNatClampNeg) 52))) (f_X3_lesser4 (gM_we s) (f_X3_amount4 ((gM_P s) t.toNatClampNeg)))) x1) x2)) H := hP
          have hD : va_D A (wM K a (pM_tu (pM_co (pM_we (pM_ti s (f_X3_greater (gM_ti s) (f_X3_amount ((gM_L s) t.toNatClampNeg) 52))) (f_X3_lesser4 (gM_we s) (f_X3_amount4 ((gM_P s) t.toNatClampNeg)))) x1) x2)) := hD
          subst ex2 ex1
          exact rt_V (s1 := _) hx hb hr hlk hK hP hD hS (Eq.symm (Eq.trans (if_pos c_6) (Eq.trans (if_pos c_34) (Eq.trans (if_neg c_102) (Eq.trans (if_neg c_123) (rfl)))))) dX3_gather_137
    · have c_34 := mt (lg_cmp_ge _ _).mpr c_34
      refine lv_aload_n hx hb dX3_gather_37 rfl (lv_at hl 1 rfl) ?_
      refine va_get (D := D) (ci := 2) (C := RX3) (T := TX3) (N := 21) hx hb hts hinX3 hown hK hP 0 rfl rfl 4 (by decide) k24 (fun _ h9 => h9) rfl dX3_gather_38 ?_
      refine lv_iload_n hx hb dX3_gather_41 rfl (lv_at hl 2 rfl) ?_
      refine va_lald hx hb hK hP 5 1 rfl rfl h_t dX3_gather_42 ?_
      refine lv_lneg hx hb dX3_gather_43 ?_
      refine lv_goto (tgt := 53) hx hb dX3_gather_44 (by decide) ?_
      refine tpl (fun x3 ex3 => ?_)
      refine lv_lstore_n (lv' := [(3, .long x3), (2, .int x1), (0, .ref (a 0)), (1, .int t)]) hx hb dX3_gather_53 rfl hl (by decide) rfl (fun ls hl => ?_)
      refine lv_aload_n hx hb dX3_gather_54 rfl (lv_at hl 2 rfl) ?_
      refine lv_aload_n hx hb dX3_gather_55 rfl (lv_at hl 2 rfl) ?_
      refine va_get (D := D) (ci := 2) (C := RX3) (T := TX3) (N := 21) hx hb hts hinX3 hown hK hP 0 rfl rfl 7 (by decide) k153 (fun _ h9 => h9) rfl dX3_gather_56 ?_
      refine lv_aload_n hx hb dX3_gather_59 rfl (lv_at hl 2 rfl) ?_
      refine va_get (D := D) (ci := 2) (C := RX3) (T := TX3) (N := 21) hx hb hts hinX3 hown hK hP 0 rfl rfl 1 (by decide) k13 (fun _ h9 => h9) rfl dX3_gather_60 ?_
      refine lv_iload_n hx hb dX3_gather_63 rfl (lv_at hl 3 rfl) ?_
      refine va_lald hx hb hK hP 2 1 rfl rfl h_t dX3_gather_64 ?_
      refine lv_bipush (v := 52) hx hb dX3_gather_65 (by decide) ?_
      refine cl_Pl (c_X3_amount l _ _) ⟨hx, hb, hml, hown, hts⟩ (va_cwS 2 hts gX3_gather_X3_amount rfl rfl rfl (by decide +kernel) ⟨Nat.le_of_ble_eq_true rfl, Nat.le_of_ble_eq_true rfl⟩) rfl hl.1 rfl (Nat.le_of_ble_eq_true rfl) (Nat.zero_le _) (Nat.zero_le _) dX3_gather_67 ?_
      refine cl_Pl (c_X3_greater l _ _) ⟨hx, hb, hml, hown, hts⟩ (va_cwS 2 hts gX3_gather_X3_greater rfl rfl rfl (by decide +kernel) ⟨Nat.le_of_ble_eq_true rfl, Nat.le_of_ble_eq_true rfl⟩) rfl hl.1 rfl (Nat.le_of_ble_eq_true rfl) (Nat.zero_le _) (Nat.zero_le _) dX3_gather_70 ?_
      refine va_put (D := D) (ci := 2) (ty := .long) (C := RX3) (T := TX3) (N := 21) hx hb hts hinX3 tyX3 tyX3_ok nmX3 hown hK hP hD hS 0 rfl rfl 7 (by decide) k153 (fun _ h9 => h9) rfl (by decide +kernel) rfl rfl (Nat.le_of_ble_eq_true rfl) dX3_gather_73 (fun H locs hP hD hS => ?_)
      have hP : va_P D vwCl (wM K a (pM_ti s (f_X3_greater (gM_ti s) (f_X3_amount ((gM_L s) t.toNatClampNeg) 52)))) H := hP
      have hD : va_D A (wM K a (pM_ti s (f_X3_greater (gM_ti s) (f_X3_amount ((gM_L s) t.toNatClampNeg) 52)))) := hD
      refine lv_aload_n hx hb dX3_gather_76 rfl (lv_at hl 2 rfl) ?_
      refine lv_aload_n hx hb dX3_gather_77 rfl (lv_at hl 2 rfl) ?_
      refine va_get (D := D) (ci := 2) (C := RX3) (T := TX3) (N := 21) hx hb hts hinX3 hown hK hP 0 rfl rfl 8 (by decide) k157 (fun _ h9 => h9) rfl dX3_gather_78 ?_
      refine lv_aload_n hx hb dX3_gather_81 rfl (lv_at hl 2 rfl) ?_
      refine va_get (D := D) (ci := 2) (C := RX3) (T := TX3) (N := 21) hx hb hts hinX3 hown hK hP 0 rfl rfl 2 (by decide) k17 (fun _ h9 => h9) rfl dX3_gather_82 ?_
      refine lv_iload_n hx hb dX3_gather_85 rfl (lv_at hl 3 rfl) ?_
      refine va_iald hx hb hK hP 3 0 rfl rfl h_t dX3_gather_86 ?_
      refine cl_Pi (c_X3_amount4 l _) ⟨hx, hb, hml, hown, hts⟩ (va_cwS 1 hts gX3_gather_X3_amount4 rfl rfl rfl (by decide +kernel) ⟨Nat.le_of_ble_eq_true rfl, Nat.le_of_ble_eq_true rfl⟩) rfl hl.1 rfl (Nat.le_of_ble_eq_true rfl) (Nat.zero_le _) (Nat.zero_le _) dX3_gather_87 ?_
      refine cl_Pi (c_X3_lesser4 l _ _) ⟨hx, hb, hml, hown, hts⟩ (va_cwS 2 hts gX3_gather_X3_lesser4 rfl rfl rfl (by decide +kernel) ⟨Nat.le_of_ble_eq_true rfl, Nat.le_of_ble_eq_true rfl⟩) rfl hl.1 rfl (Nat.le_of_ble_eq_true rfl) (Nat.zero_le _) (Nat.zero_le _) dX3_gather_90 ?_
      refine va_put (D := D) (ci := 2) (ty := .int) (C := RX3) (T := TX3) (N := 21) hx hb hts hinX3 tyX3 tyX3_ok nmX3 hown hK hP hD hS 0 rfl rfl 8 (by decide) k157 (fun _ h9 => h9) rfl (by decide +kernel) rfl rfl (Nat.le_of_ble_eq_true rfl) dX3_gather_93 (fun H locs hP hD hS => ?_)
      have hP : va_P D vwCl (wM K a (pM_we (pM_ti s (f_X3_greater (gM_ti s) (f_X3_amount ((gM_L s) t.toNatClampNeg) 52))) (f_X3_lesser4 (gM_we s) (f_X3_amount4 ((gM_P s) t.toNatClampNeg))))) H := hP
      have hD : va_D A (wM K a (pM_we (pM_ti s (f_X3_greater (gM_ti s) (f_X3_amount ((gM_L s) t.toNatClampNeg) 52))) (f_X3_lesser4 (gM_we s) (f_X3_amount4 ((gM_P s) t.toNatClampNeg))))) := hD
      refine lv_aload_n hx hb dX3_gather_96 rfl (lv_at hl 2 rfl) ?_
      refine lv_iload_n hx hb dX3_gather_97 rfl (lv_at hl 1 rfl) ?_
      refine lv_aload_n hx hb dX3_gather_98 rfl (lv_at hl 2 rfl) ?_
      refine va_get (D := D) (ci := 2) (C := RX3) (T := TX3) (N := 21) hx hb hts hinX3 hown hK hP 0 rfl rfl 9 (by decide) k161 (fun _ h9 => h9) rfl dX3_gather_99 ?_
      refine lv_icmp_le (tgt := 109) hx hb dX3_gather_102 (by decide) (fun c_102 => ?_) (fun c_102 => ?_)
      · refine lv_aload_n hx hb dX3_gather_109 rfl (lv_at hl 2 rfl) ?_
        refine va_get (D := D) (ci := 2) (C := RX3) (T := TX3) (N := 21) hx hb hts hinX3 hown hK hP 0 rfl rfl 9 (by decide) k161 (fun _ h9 => h9) rfl dX3_gather_110 ?_
        refine va_put (D := D) (ci := 2) (ty := .int) (C := RX3) (T := TX3) (N := 21) hx hb hts hinX3 tyX3 tyX3_ok nmX3 hown hK hP hD hS 0 rfl rfl 9 (by decide) k161 (fun _ h9 => h9) rfl (by decide +kernel) rfl rfl (Nat.le_of_ble_eq_true rfl) dX3_gather_113 (fun H locs hP hD hS => ?_)
        have hP : va_P D vwCl (wM K a (pM_co (pM_we (pM_ti s (f_X3_greater (gM_ti s) (f_X3_amount ((gM_L s) t.toNatClampNeg) 52))) (f_X3_lesser4 (gM_we s) (f_X3_amount4 ((gM_P s) t.toNatClampNeg)))) (gM_co s))) H := hP
        have hD : va_D A (wM K a (pM_co (pM_we (pM_ti s (f_X3_greater (gM_ti s) (f_X3_amount ((gM_L s) t.toNatClampNeg) 52))) (f_X3_lesser4 (gM_we s) (f_X3_amount4 ((gM_P s) t.toNatClampNeg)))) (gM_co s))) := hD
        refine lv_aload_n hx hb dX3_gather_116 rfl (lv_at hl 2 rfl) ?_
        refine lv_lload_n hx hb dX3_gather_117 rfl (lv_at hl 0 rfl) ?_
        refine lv_aload_n hx hb dX3_gather_118 rfl (lv_at hl 2 rfl) ?_
        refine va_get (D := D) (ci := 2) (C := RX3) (T := TX3) (N := 21) hx hb hts hinX3 hown hK hP 0 rfl rfl 10 (by decide) k164 (fun _ h9 => h9) rfl dX3_gather_119 ?_
        refine W.lcmp hx hb dX3_gather_122 ?_
        refine lv_if_ge (tgt := 130) hx hb dX3_gather_123 (by decide) (fun c_123 => ?_) (fun c_123 => ?_)
        · have c_123 := (lg_cmp_ge _ _).mp c_123
          refine lv_aload_n hx hb dX3_gather_130 rfl (lv_at hl 2 rfl) ?_
          refine va_get (D := D) (ci := 2) (C := RX3) (T := TX3) (N := 21) hx hb hts hinX3 hown hK hP 0 rfl rfl 10 (by decide) k164 (fun _ h9 => h9) rfl dX3_gather_131 ?_
          refine va_put (D := D) (ci := 2) (ty := .long) (C := RX3) (T := TX3) (N := 21) hx hb hts hinX3 tyX3 tyX3_ok nmX3 hown hK hP hD hS 0 rfl rfl 10 (by decide) k164 (fun _ h9 => h9) rfl (by decide +kernel) rfl rfl (Nat.le_of_ble_eq_true rfl) dX3_gather_134 (fun H locs hP hD hS => ?_)
          have hP : va_P D vwCl (wM K a (pM_tu (pM_co (pM_we (pM_ti s (f_X3_greater (gM_ti s) (f_X3_amount ((gM_L s) t.toNatClampNeg) 52))) (f_X3_lesser4 (gM_we s) (f_X3_amount4 ((gM_P s) t.toNatClampNeg)))) (gM_co s)) (gM_tu s))) H := hP
          have hD : va_D A (wM K a (pM_tu (pM_co (pM_we (pM_ti s (f_X3_greater (gM_ti s) (f_X3_amount ((gM_L s) t.toNatClampNeg) 52))) (f_X3_lesser4 (gM_we s) (f_X3_amount4 ((gM_P s) t.toNatClampNeg)))) (gM_co s)) (gM_tu s))) := hD
          subst ex3 ex1
          exact rt_V (s1 := _) hx hb hr hlk hK hP hD hS (Eq.symm (Eq.trans (if_pos c_6) (Eq.trans (if_neg c_34) (Eq.trans (if_pos c_102) (Eq.trans (if_pos c_123) (rfl)))))) dX3_gather_137
        · have c_123 := mt (lg_cmp_ge _ _).mpr c_123
          refine lv_lload_n hx hb dX3_gather_126 rfl (lv_at hl 0 rfl) ?_
          refine lv_goto (tgt := 134) hx hb dX3_gather_127 (by decide) ?_
          refine va_put (D := D) (ci := 2) (ty := .long) (C := RX3) (T := TX3) (N := 21) hx hb hts hinX3 tyX3 tyX3_ok nmX3 hown hK hP hD hS 0 rfl rfl 10 (by decide) k164 (fun _ h9 => h9) rfl (by decide +kernel) rfl rfl (Nat.le_of_ble_eq_true rfl) dX3_gather_134 (fun H locs hP hD hS => ?_)
          have hP : va_P D vwCl (wM K a (pM_tu (pM_co (pM_we (pM_ti s (f_X3_greater (gM_ti s) (f_X3_amount ((gM_L s) t.toNatClampNeg) 52))) (f_X3_lesser4 (gM_we s) (f_X3_amount4 ((gM_P s) t.toNatClampNeg)))) (gM_co s)) x3)) H := hP
          have hD : va_D A (wM K a (pM_tu (pM_co (pM_we (pM_ti s (f_X3_greater (gM_ti s) (f_X3_amount ((gM_L s) t.toNatClampNeg) 52))) (f_X3_lesser4 (gM_we s) (f_X3_amount4 ((gM_P s) t.toNatClampNeg)))) (gM_co s)) x3)) := hD
          subst ex3 ex1
          exact rt_V (s1 := _) hx hb hr hlk hK hP hD hS (Eq.symm (Eq.trans (if_pos c_6) (Eq.trans (if_neg c_34) (Eq.trans (if_pos c_102) (Eq.trans (if_neg c_123) (rfl)))))) dX3_gather_137
      · refine lv_iload_n hx hb dX3_gather_105 rfl (lv_at hl 1 rfl) ?_
        refine lv_goto (tgt := 113) hx hb dX3_gather_106 (by decide) ?_
        refine va_put (D := D) (ci := 2) (ty := .int) (C := RX3) (T := TX3) (N := 21) hx hb hts hinX3 tyX3 tyX3_ok nmX3 hown hK hP hD hS 0 rfl rfl 9 (by decide) k161 (fun _ h9 => h9) rfl (by decide +kernel) rfl rfl (Nat.le_of_ble_eq_true rfl) dX3_gather_113 (fun H locs hP hD hS => ?_)
        have hP : va_P D vwCl (wM K a (pM_co (pM_we (pM_ti s (f_X3_greater (gM_ti s) (f_X3_amount ((gM_L s) t.toNatClampNeg) 52))) (f_X3_lesser4 (gM_we s) (f_X3_amount4 ((gM_P s) t.toNatClampNeg)))) x1)) H := hP
        have hD : va_D A (wM K a (pM_co (pM_we (pM_ti s (f_X3_greater (gM_ti s) (f_X3_amount ((gM_L s) t.toNatClampNeg) 52))) (f_X3_lesser4 (gM_we s) (f_X3_amount4 ((gM_P s) t.toNatClampNeg)))) x1)) := hD
        refine lv_aload_n hx hb dX3_gather_116 rfl (lv_at hl 2 rfl) ?_
        refine lv_lload_n hx hb dX3_gather_117 rfl (lv_at hl 0 rfl) ?_
        refine lv_aload_n hx hb dX3_gather_118 rfl (lv_at hl 2 rfl) ?_
        refine va_get (D := D) (ci := 2) (C := RX3) (T := TX3) (N := 21) hx hb hts hinX3 hown hK hP 0 rfl rfl 10 (by decide) k164 (fun _ h9 => h9) rfl dX3_gather_119 ?_
        refine W.lcmp hx hb dX3_gather_122 ?_
        refine lv_if_ge (tgt := 130) hx hb dX3_gather_123 (by decide) (fun c_123 => ?_) (fun c_123 => ?_)
        · have c_123 := (lg_cmp_ge _ _).mp c_123
          refine lv_aload_n hx hb dX3_gather_130 rfl (lv_at hl 2 rfl) ?_
          refine va_get (D := D) (ci := 2) (C := RX3) (T := TX3) (N := 21) hx hb hts hinX3 hown hK hP 0 rfl rfl 10 (by decide) k164 (fun _ h9 => h9) rfl dX3_gather_131 ?_
          refine va_put (D := D) (ci := 2) (ty := .long) (C := RX3) (T := TX3) (N := 21) hx hb hts hinX3 tyX3 tyX3_ok nmX3 hown hK hP hD hS 0 rfl rfl 10 (by decide) k164 (fun _ h9 => h9) rfl (by decide +kernel) rfl rfl (Nat.le_of_ble_eq_true rfl) dX3_gather_134 (fun H locs hP hD hS => ?_)
          have hP : va_P D vwCl (wM K a (pM_tu (pM_co (pM_we (pM_ti s (f_X3_greater (gM_ti s) (f_X3_amount ((gM_L s) t.toNatClampNeg) 52))) (f_X3_lesser4 (gM_we s) (f_X3_amount4 ((gM_P s) t.toNatClampNeg)))) x1) (gM_tu s))) H := hP
          have hD : va_D A (wM K a (pM_tu (pM_co (pM_we (pM_ti s (f_X3_greater (gM_ti s) (f_X3_amount ((gM_L s) t.toNatClampNeg) 52))) (f_X3_lesser4 (gM_we s) (f_X3_amount4 ((gM_P s) t.toNatClampNeg)))) x1) (gM_tu s))) := hD
          subst ex3 ex1
          exact rt_V (s1 := _) hx hb hr hlk hK hP hD hS (Eq.symm (Eq.trans (if_pos c_6) (Eq.trans (if_neg c_34) (Eq.trans (if_neg c_102) (Eq.trans (if_pos c_123) (rfl)))))) dX3_gather_137
        · have c_123 := mt (lg_cmp_ge _ _).mpr c_123
          refine lv_lload_n hx hb dX3_gather_126 rfl (lv_at hl 0 rfl) ?_
          refine lv_goto (tgt := 134) hx hb dX3_gather_127 (by decide) ?_
          refine va_put (D := D) (ci := 2) (ty := .long) (C := RX3) (T := TX3) (N := 21) hx hb hts hinX3 tyX3 tyX3_ok nmX3 hown hK hP hD hS 0 rfl rfl 10 (by decide) k164 (fun _ h9 => h9) rfl (by decide +kernel) rfl rfl (Nat.le_of_ble_eq_true rfl) dX3_gather_134 (fun H locs hP hD hS => ?_)
          have hP : va_P D vwCl (wM K a (pM_tu (pM_co (pM_we (pM_ti s (f_X3_greater (gM_ti s) (f_X3_amount ((gM_L s) t.toNatClampNeg) 52))) (f_X3_lesser4 (gM_we s) (f_X3_amount4 ((gM_P s) t.toNatClampNeg)))) x1) x3)) H := hP
          have hD : va_D A (wM K a (pM_tu (pM_co (pM_we (pM_ti s (f_X3_greater (gM_ti s) (f_X3_amount ((gM_L s) t.toNatClampNeg) 52))) (f_X3_lesser4 (gM_we s) (f_X3_amount4 ((gM_P s) t.toNatClampNeg)))) x1) x3)) := hD
          subst ex3 ex1
          exact rt_V (s1 := _) hx hb hr hlk hK hP hD hS (Eq.symm (Eq.trans (if_pos c_6) (Eq.trans (if_neg c_34) (Eq.trans (if_neg c_102) (Eq.trans (if_neg c_123) (rfl)))))) dX3_gather_137
  · refine lv_aload_n hx hb dX3_gather_9 rfl (lv_at hl 0 rfl) ?_
    refine va_get (D := D) (ci := 2) (C := RX3) (T := TX3) (N := 21) hx hb hts hinX3 hown hK hP 0 rfl rfl 3 (by decide) k21 (fun _ h9 => h9) rfl dX3_gather_10 ?_
    refine lv_iload_n hx hb dX3_gather_13 rfl (lv_at hl 1 rfl) ?_
    refine va_iald hx hb hK hP 4 0 rfl rfl h_t dX3_gather_14 ?_
    refine lv_ineg hx hb dX3_gather_15 ?_
    refine lv_goto (tgt := 25) hx hb dX3_gather_16 (by decide) ?_
    refine tpi (fun x4 ex4 => ?_)
    refine lv_istore_n (lv' := [(2, .int x4), (0, .ref (a 0)), (1, .int t)]) hx hb dX3_gather_25 rfl hl (by decide) rfl (fun ls hl => ?_)
    refine lv_aload_n hx hb dX3_gather_26 rfl (lv_at hl 1 rfl) ?_
    refine va_get (D := D) (ci := 2) (C := RX3) (T := TX3) (N := 21) hx hb hts hinX3 hown hK hP 0 rfl rfl 4 (by decide) k24 (fun _ h9 => h9) rfl dX3_gather_27 ?_
    refine lv_iload_n hx hb dX3_gather_30 rfl (lv_at hl 2 rfl) ?_
    refine va_lald hx hb hK hP 5 1 rfl rfl h_t dX3_gather_31 ?_
    refine lv_lconst (v := 0) hx hb dX3_gather_32 (by decide) ?_
    refine W.lcmp hx hb dX3_gather_33 ?_
    refine lv_if_ge (tgt := 47) hx hb dX3_gather_34 (by decide) (fun c_34 => ?_) (fun c_34 => ?_)
    · have c_34 := (lg_cmp_ge _ _).mp c_34
      refine lv_aload_n hx hb dX3_gather_47 rfl (lv_at hl 1 rfl) ?_
      refine va_get (D := D) (ci := 2) (C := RX3) (T := TX3) (N := 21) hx hb hts hinX3 hown hK hP 0 rfl rfl 4 (by decide) k24 (fun _ h9 => h9) rfl dX3_gather_48 ?_
      refine lv_iload_n hx hb dX3_gather_51 rfl (lv_at hl 2 rfl) ?_
      refine va_lald hx hb hK hP 5 1 rfl rfl h_t dX3_gather_52 ?_
      refine tpl (fun x5 ex5 => ?_)
      refine lv_lstore_n (lv' := [(3, .long x5), (2, .int x4), (0, .ref (a 0)), (1, .int t)]) hx hb dX3_gather_53 rfl hl (by decide) rfl (fun ls hl => ?_)
      refine lv_aload_n hx hb dX3_gather_54 rfl (lv_at hl 2 rfl) ?_
      refine lv_aload_n hx hb dX3_gather_55 rfl (lv_at hl 2 rfl) ?_
      refine va_get (D := D) (ci := 2) (C := RX3) (T := TX3) (N := 21) hx hb hts hinX3 hown hK hP 0 rfl rfl 7 (by decide) k153 (fun _ h9 => h9) rfl dX3_gather_56 ?_
      refine lv_aload_n hx hb dX3_gather_59 rfl (lv_at hl 2 rfl) ?_
      refine va_get (D := D) (ci := 2) (C := RX3) (T := TX3) (N := 21) hx hb hts hinX3 hown hK hP 0 rfl rfl 1 (by decide) k13 (fun _ h9 => h9) rfl dX3_gather_60 ?_
      refine lv_iload_n hx hb dX3_gather_63 rfl (lv_at hl 3 rfl) ?_
      refine va_lald hx hb hK hP 2 1 rfl rfl h_t dX3_gather_64 ?_
      refine lv_bipush (v := 52) hx hb dX3_gather_65 (by decide) ?_
      refine cl_Pl (c_X3_amount l _ _) ⟨hx, hb, hml, hown, hts⟩ (va_cwS 2 hts gX3_gather_X3_amount rfl rfl rfl (by decide +kernel) ⟨Nat.le_of_ble_eq_true rfl, Nat.le_of_ble_eq_true rfl⟩) rfl hl.1 rfl (Nat.le_of_ble_eq_true rfl) (Nat.zero_le _) (Nat.zero_le _) dX3_gather_67 ?_
      refine cl_Pl (c_X3_greater l _ _) ⟨hx, hb, hml, hown, hts⟩ (va_cwS 2 hts gX3_gather_X3_greater rfl rfl rfl (by decide +kernel) ⟨Nat.le_of_ble_eq_true rfl, Nat.le_of_ble_eq_true rfl⟩) rfl hl.1 rfl (Nat.le_of_ble_eq_true rfl) (Nat.zero_le _) (Nat.zero_le _) dX3_gather_70 ?_
      refine va_put (D := D) (ci := 2) (ty := .long) (C := RX3) (T := TX3) (N := 21) hx hb hts hinX3 tyX3 tyX3_ok nmX3 hown hK hP hD hS 0 rfl rfl 7 (by decide) k153 (fun _ h9 => h9) rfl (by decide +kernel) rfl rfl (Nat.le_of_ble_eq_true rfl) dX3_gather_73 (fun H locs hP hD hS => ?_)
      have hP : va_P D vwCl (wM K a (pM_ti s (f_X3_greater (gM_ti s) (f_X3_amount ((gM_L s) t.toNatClampNeg) 52)))) H := hP
      have hD : va_D A (wM K a (pM_ti s (f_X3_greater (gM_ti s) (f_X3_amount ((gM_L s) t.toNatClampNeg) 52)))) := hD
      refine lv_aload_n hx hb dX3_gather_76 rfl (lv_at hl 2 rfl) ?_
      refine lv_aload_n hx hb dX3_gather_77 rfl (lv_at hl 2 rfl) ?_
      refine va_get (D := D) (ci := 2) (C := RX3) (T := TX3) (N := 21) hx hb hts hinX3 hown hK hP 0 rfl rfl 8 (by decide) k157 (fun _ h9 => h9) rfl dX3_gather_78 ?_
      refine lv_aload_n hx hb dX3_gather_81 rfl (lv_at hl 2 rfl) ?_
      refine va_get (D := D) (ci := 2) (C := RX3) (T := TX3) (N := 21) hx hb hts hinX3 hown hK hP 0 rfl rfl 2 (by decide) k17 (fun _ h9 => h9) rfl dX3_gather_82 ?_
      refine lv_iload_n hx hb dX3_gather_85 rfl (lv_at hl 3 rfl) ?_
      refine va_iald hx hb hK hP 3 0 rfl rfl h_t dX3_gather_86 ?_
      refine cl_Pi (c_X3_amount4 l _) ⟨hx, hb, hml, hown, hts⟩ (va_cwS 1 hts gX3_gather_X3_amount4 rfl rfl rfl (by decide +kernel) ⟨Nat.le_of_ble_eq_true rfl, Nat.le_of_ble_eq_true rfl⟩) rfl hl.1 rfl (Nat.le_of_ble_eq_true rfl) (Nat.zero_le _) (Nat.zero_le _) dX3_gather_87 ?_
      refine cl_Pi (c_X3_lesser4 l _ _) ⟨hx, hb, hml, hown, hts⟩ (va_cwS 2 hts gX3_gather_X3_lesser4 rfl rfl rfl (by decide +kernel) ⟨Nat.le_of_ble_eq_true rfl, Nat.le_of_ble_eq_true rfl⟩) rfl hl.1 rfl (Nat.le_of_ble_eq_true rfl) (Nat.zero_le _) (Nat.zero_le _) dX3_gather_90 ?_
      refine va_put (D := D) (ci := 2) (ty := .int) (C := RX3) (T := TX3) (N := 21) hx hb hts hinX3 tyX3 tyX3_ok nmX3 hown hK hP hD hS 0 rfl rfl 8 (by decide) k157 (fun _ h9 => h9) rfl (by decide +kernel) rfl rfl (Nat.le_of_ble_eq_true rfl) dX3_gather_93 (fun H locs hP hD hS => ?_)
      have hP : va_P D vwCl (wM K a (pM_we (pM_ti s (f_X3_greater (gM_ti s) (f_X3_amount ((gM_L s) t.toNatClampNeg) 52))) (f_X3_lesser4 (gM_we s) (f_X3_amount4 ((gM_P s) t.toNatClampNeg))))) H := hP
      have hD : va_D A (wM K a (pM_we (pM_ti s (f_X3_greater (gM_ti s) (f_X3_amount ((gM_L s) t.toNatClampNeg) 52))) (f_X3_lesser4 (gM_we s) (f_X3_amount4 ((gM_P s) t.toNatClampNeg))))) := hD
      refine lv_aload_n hx hb dX3_gather_96 rfl (lv_at hl 2 rfl) ?_
      refine lv_iload_n hx hb dX3_gather_97 rfl (lv_at hl 1 rfl) ?_
      refine lv_aload_n hx hb dX3_gather_98 rfl (lv_at hl 2 rfl) ?_
      refine va_get (D := D) (ci := 2) (C := RX3) (T := TX3) (N := 21) hx hb hts hinX3 hown hK hP 0 rfl rfl 9 (by decide) k161 (fun _ h9 => h9) rfl dX3_gather_99 ?_
      refine lv_icmp_le (tgt := 109) hx hb dX3_gather_102 (by decide) (fun c_102 => ?_) (fun c_102 => ?_)
      · refine lv_aload_n hx hb dX3_gather_109 rfl (lv_at hl 2 rfl) ?_
        refine va_get (D := D) (ci := 2) (C := RX3) (T := TX3) (N := 21) hx hb hts hinX3 hown hK hP 0 rfl rfl 9 (by decide) k161 (fun _ h9 => h9) rfl dX3_gather_110 ?_
        refine va_put (D := D) (ci := 2) (ty := .int) (C := RX3) (T := TX3) (N := 21) hx hb hts hinX3 tyX3 tyX3_ok nmX3 hown hK hP hD hS 0 rfl rfl 9 (by decide) k161 (fun _ h9 => h9) rfl (by decide +kernel) rfl rfl (Nat.le_of_ble_eq_true rfl) dX3_gather_113 (fun H locs hP hD hS => ?_)
        have hP : va_P D vwCl (wM K a (pM_co (pM_we (pM_ti s (f_X3_greater (gM_ti s) (f_X3_amount ((gM_L s) t.toNatClampNeg) 52))) (f_X3_lesser4 (gM_we s) (f_X3_amount4 ((gM_P s) t.toNatClampNeg)))) (gM_co s))) H := hP
        have hD : va_D A (wM K a (pM_co (pM_we (pM_ti s (f_X3_greater (gM_ti s) (f_X3_amount ((gM_L s) t.toNatClampNeg) 52))) (f_X3_lesser4 (gM_we s) (f_X3_amount4 ((gM_P s) t.toNatClampNeg)))) (gM_co s))) := hD
        refine lv_aload_n hx hb dX3_gather_116 rfl (lv_at hl 2 rfl) ?_
        refine lv_lload_n hx hb dX3_gather_117 rfl (lv_at hl 0 rfl) ?_
        refine lv_aload_n hx hb dX3_gather_118 rfl (lv_at hl 2 rfl) ?_
        refine va_get (D := D) (ci := 2) (C := RX3) (T := TX3) (N := 21) hx hb hts hinX3 hown hK hP 0 rfl rfl 10 (by decide) k164 (fun _ h9 => h9) rfl dX3_gather_119 ?_
        refine W.lcmp hx hb dX3_gather_122 ?_
        refine lv_if_ge (tgt := 130) hx hb dX3_gather_123 (by decide) (fun c_123 => ?_) (fun c_123 => ?_)
        · have c_123 := (lg_cmp_ge _ _).mp c_123
          refine lv_aload_n hx hb dX3_gather_130 rfl (lv_at hl 2 rfl) ?_
          refine va_get (D := D) (ci := 2) (C := RX3) (T := TX3) (N := 21) hx hb hts hinX3 hown hK hP 0 rfl rfl 10 (by decide) k164 (fun _ h9 => h9) rfl dX3_gather_131 ?_
          refine va_put (D := D) (ci := 2) (ty := .long) (C := RX3) (T := TX3) (N := 21) hx hb hts hinX3 tyX3 tyX3_ok nmX3 hown hK hP hD hS 0 rfl rfl 10 (by decide) k164 (fun _ h9 => h9) rfl (by decide +kernel) rfl rfl (Nat.le_of_ble_eq_true rfl) dX3_gather_134 (fun H locs hP hD hS => ?_)
          have hP : va_P D vwCl (wM K a (pM_tu (pM_co (pM_we (pM_ti s (f_X3_greater (gM_ti s) (f_X3_amount ((gM_L s) t.toNatClampNeg) 52))) (f_X3_lesser4 (gM_we s) (f_X3_amount4 ((gM_P s) t.toNatClampNeg)))) (gM_co s)) (gM_tu s))) H := hP
          have hD : va_D A (wM K a (pM_tu (pM_co (pM_we (pM_ti s (f_X3_greater (gM_ti s) (f_X3_amount ((gM_L s) t.toNatClampNeg) 52))) (f_X3_lesser4 (gM_we s) (f_X3_amount4 ((gM_P s) t.toNatClampNeg)))) (gM_co s)) (gM_tu s))) := hD
          subst ex5 ex4
          exact rt_V (s1 := _) hx hb hr hlk hK hP hD hS (Eq.symm (Eq.trans (if_neg c_6) (Eq.trans (if_pos c_34) (Eq.trans (if_pos c_102) (Eq.trans (if_pos c_123) (rfl)))))) dX3_gather_137
        · have c_123 := mt (lg_cmp_ge _ _).mpr c_123
          refine lv_lload_n hx hb dX3_gather_126 rfl (lv_at hl 0 rfl) ?_
          refine lv_goto (tgt := 134) hx hb dX3_gather_127 (by decide) ?_
          refine va_put (D := D) (ci := 2) (ty := .long) (C := RX3) (T := TX3) (N := 21) hx hb hts hinX3 tyX3 tyX3_ok nmX3 hown hK hP hD hS 0 rfl rfl 10 (by decide) k164 (fun _ h9 => h9) rfl (by decide +kernel) rfl rfl (Nat.le_of_ble_eq_true rfl) dX3_gather_134 (fun H locs hP hD hS => ?_)
          have hP : va_P D vwCl (wM K a (pM_tu (pM_co (pM_we (pM_ti s (f_X3_greater (gM_ti s) (f_X3_amount ((gM_L s) t.toNatClampNeg) 52))) (f_X3_lesser4 (gM_we s) (f_X3_amount4 ((gM_P s) t.toNatClampNeg)))) (gM_co s)) x5)) H := hP
          have hD : va_D A (wM K a (pM_tu (pM_co (pM_we (pM_ti s (f_X3_greater (gM_ti s) (f_X3_amount ((gM_L s) t.toNatClampNeg) 52))) (f_X3_lesser4 (gM_we s) (f_X3_amount4 ((gM_P s) t.toNatClampNeg)))) (gM_co s)) x5)) := hD
          subst ex5 ex4
          exact rt_V (s1 := _) hx hb hr hlk hK hP hD hS (Eq.symm (Eq.trans (if_neg c_6) (Eq.trans (if_pos c_34) (Eq.trans (if_pos c_102) (Eq.trans (if_neg c_123) (rfl)))))) dX3_gather_137
      · refine lv_iload_n hx hb dX3_gather_105 rfl (lv_at hl 1 rfl) ?_
        refine lv_goto (tgt := 113) hx hb dX3_gather_106 (by decide) ?_
        refine va_put (D := D) (ci := 2) (ty := .int) (C := RX3) (T := TX3) (N := 21) hx hb hts hinX3 tyX3 tyX3_ok nmX3 hown hK hP hD hS 0 rfl rfl 9 (by decide) k161 (fun _ h9 => h9) rfl (by decide +kernel) rfl rfl (Nat.le_of_ble_eq_true rfl) dX3_gather_113 (fun H locs hP hD hS => ?_)
        have hP : va_P D vwCl (wM K a (pM_co (pM_we (pM_ti s (f_X3_greater (gM_ti s) (f_X3_amount ((gM_L s) t.toNatClampNeg) 52))) (f_X3_lesser4 (gM_we s) (f_X3_amount4 ((gM_P s) t.toNatClampNeg)))) x4)) H := hP
        have hD : va_D A (wM K a (pM_co (pM_we (pM_ti s (f_X3_greater (gM_ti s) (f_X3_amount ((gM_L s) t.toNatClampNeg) 52))) (f_X3_lesser4 (gM_we s) (f_X3_amount4 ((gM_P s) t.toNatClampNeg)))) x4)) := hD
        refine lv_aload_n hx hb dX3_gather_116 rfl (lv_at hl 2 rfl) ?_
        refine lv_lload_n hx hb dX3_gather_117 rfl (lv_at hl 0 rfl) ?_
        refine lv_aload_n hx hb dX3_gather_118 rfl (lv_at hl 2 rfl) ?_
        refine va_get (D := D) (ci := 2) (C := RX3) (T := TX3) (N := 21) hx hb hts hinX3 hown hK hP 0 rfl rfl 10 (by decide) k164 (fun _ h9 => h9) rfl dX3_gather_119 ?_
        refine W.lcmp hx hb dX3_gather_122 ?_
        refine lv_if_ge (tgt := 130) hx hb dX3_gather_123 (by decide) (fun c_123 => ?_) (fun c_123 => ?_)
        · have c_123 := (lg_cmp_ge _ _).mp c_123
          refine lv_aload_n hx hb dX3_gather_130 rfl (lv_at hl 2 rfl) ?_
          refine va_get (D := D) (ci := 2) (C := RX3) (T := TX3) (N := 21) hx hb hts hinX3 hown hK hP 0 rfl rfl 10 (by decide) k164 (fun _ h9 => h9) rfl dX3_gather_131 ?_
          refine va_put (D := D) (ci := 2) (ty := .long) (C := RX3) (T := TX3) (N := 21) hx hb hts hinX3 tyX3 tyX3_ok nmX3 hown hK hP hD hS 0 rfl rfl 10 (by decide) k164 (fun _ h9 => h9) rfl (by decide +kernel) rfl rfl (Nat.le_of_ble_eq_true rfl) dX3_gather_134 (fun H locs hP hD hS => ?_)
          have hP : va_P D vwCl (wM K a (pM_tu (pM_co (pM_we (pM_ti s (f_X3_greater (gM_ti s) (f_X3_amount ((gM_L s) t.toNatClampNeg) 52))) (f_X3_lesser4 (gM_we s) (f_X3_amount4 ((gM_P s) t.toNatClampNeg)))) x4) (gM_tu s))) H := hP
          have hD : va_D A (wM K a (pM_tu (pM_co (pM_we (pM_ti s (f_X3_greater (gM_ti s) (f_X3_amount ((gM_L s) t.toNatClampNeg) 52))) (f_X3_lesser4 (gM_we s) (f_X3_amount4 ((gM_P s) t.toNatClampNeg)))) x4) (gM_tu s))) := hD
          subst ex5 ex4
          exact rt_V (s1 := _) hx hb hr hlk hK hP hD hS (Eq.symm (Eq.trans (if_neg c_6) (Eq.trans (if_pos c_34) (Eq.trans (if_neg c_102) (Eq.trans (if_pos c_123) (rfl)))))) dX3_gather_137
        · have c_123 := mt (lg_cmp_ge _ _).mpr c_123
          refine lv_lload_n hx hb dX3_gather_126 rfl (lv_at hl 0 rfl) ?_
          refine lv_goto (tgt := 134) hx hb dX3_gather_127 (by decide) ?_
          refine va_put (D := D) (ci := 2) (ty := .long) (C := RX3) (T := TX3) (N := 21) hx hb hts hinX3 tyX3 tyX3_ok nmX3 hown hK hP hD hS 0 rfl rfl 10 (by decide) k164 (fun _ h9 => h9) rfl (by decide +kernel) rfl rfl (Nat.le_of_ble_eq_true rfl) dX3_gather_134 (fun H locs hP hD hS => ?_)
          have hP : va_P D vwCl (wM K a (pM_tu (pM_co (pM_we (pM_ti s (f_X3_greater (gM_ti s) (f_X3_amount ((gM_L s) t.toNatClampNeg) 52))) (f_X3_lesser4 (gM_we s) (f_X3_amount4 ((gM_P s) t.toNatClampNeg)))) x4) x5)) H := hP
          have hD : va_D A (wM K a (pM_tu (pM_co (pM_we (pM_ti s (f_X3_greater (gM_ti s) (f_X3_amount ((gM_L s) t.toNatClampNeg) 52))) (f_X3_lesser4 (gM_we s) (f_X3_amount4 ((gM_P s) t.toNatClampNeg)))) x4) x5)) := hD
          subst ex5 ex4
          exact rt_V (s1 := _) hx hb hr hlk hK hP hD hS (Eq.symm (Eq.trans (if_neg c_6) (Eq.trans (if_pos c_34) (Eq.trans (if_neg c_102) (Eq.trans (if_neg c_123) (rfl)))))) dX3_gather_137
    · have c_34 := mt (lg_cmp_ge _ _).mpr c_34
      refine lv_aload_n hx hb dX3_gather_37 rfl (lv_at hl 1 rfl) ?_
      refine va_get (D := D) (ci := 2) (C := RX3) (T := TX3) (N := 21) hx hb hts hinX3 hown hK hP 0 rfl rfl 4 (by decide) k24 (fun _ h9 => h9) rfl dX3_gather_38 ?_
      refine lv_iload_n hx hb dX3_gather_41 rfl (lv_at hl 2 rfl) ?_
      refine va_lald hx hb hK hP 5 1 rfl rfl h_t dX3_gather_42 ?_
      refine lv_lneg hx hb dX3_gather_43 ?_
      refine lv_goto (tgt := 53) hx hb dX3_gather_44 (by decide) ?_
      refine tpl (fun x6 ex6 => ?_)
      refine lv_lstore_n (lv' := [(3, .long x6), (2, .int x4), (0, .ref (a 0)), (1, .int t)]) hx hb dX3_gather_53 rfl hl (by decide) rfl (fun ls hl => ?_)
      refine lv_aload_n hx hb dX3_gather_54 rfl (lv_at hl 2 rfl) ?_
      refine lv_aload_n hx hb dX3_gather_55 rfl (lv_at hl 2 rfl) ?_
      refine va_get (D := D) (ci := 2) (C := RX3) (T := TX3) (N := 21) hx hb hts hinX3 hown hK hP 0 rfl rfl 7 (by decide) k153 (fun _ h9 => h9) rfl dX3_gather_56 ?_
      refine lv_aload_n hx hb dX3_gather_59 rfl (lv_at hl 2 rfl) ?_
      refine va_get (D := D) (ci := 2) (C := RX3) (T := TX3) (N := 21) hx hb hts hinX3 hown hK hP 0 rfl rfl 1 (by decide) k13 (fun _ h9 => h9) rfl dX3_gather_60 ?_
      refine lv_iload_n hx hb dX3_gather_63 rfl (lv_at hl 3 rfl) ?_
      refine va_lald hx hb hK hP 2 1 rfl rfl h_t dX3_gather_64 ?_
      refine lv_bipush (v := 52) hx hb dX3_gather_65 (by decide) ?_
      refine cl_Pl (c_X3_amount l _ _) ⟨hx, hb, hml, hown, hts⟩ (va_cwS 2 hts gX3_gather_X3_amount rfl rfl rfl (by decide +kernel) ⟨Nat.le_of_ble_eq_true rfl, Nat.le_of_ble_eq_true rfl⟩) rfl hl.1 rfl (Nat.le_of_ble_eq_true rfl) (Nat.zero_le _) (Nat.zero_le _) dX3_gather_67 ?_
      refine cl_Pl (c_X3_greater l _ _) ⟨hx, hb, hml, hown, hts⟩ (va_cwS 2 hts gX3_gather_X3_greater rfl rfl rfl (by decide +kernel) ⟨Nat.le_of_ble_eq_true rfl, Nat.le_of_ble_eq_true rfl⟩) rfl hl.1 rfl (Nat.le_of_ble_eq_true rfl) (Nat.zero_le _) (Nat.zero_le _) dX3_gather_70 ?_
      refine va_put (D := D) (ci := 2) (ty := .long) (C := RX3) (T := TX3) (N := 21) hx hb hts hinX3 tyX3 tyX3_ok nmX3 hown hK hP hD hS 0 rfl rfl 7 (by decide) k153 (fun _ h9 => h9) rfl (by decide +kernel) rfl rfl (Nat.le_of_ble_eq_true rfl) dX3_gather_73 (fun H locs hP hD hS => ?_)
      have hP : va_P D vwCl (wM K a (pM_ti s (f_X3_greater (gM_ti s) (f_X3_amount ((gM_L s) t.toNatClampNeg) 52)))) H := hP
      have hD : va_D A (wM K a (pM_ti s (f_X3_greater (gM_ti s) (f_X3_amount ((gM_L s) t.toNatClampNeg) 52)))) := hD
      refine lv_aload_n hx hb dX3_gather_76 rfl (lv_at hl 2 rfl) ?_
      refine lv_aload_n hx hb dX3_gather_77 rfl (lv_at hl 2 rfl) ?_
      refine va_get (D := D) (ci := 2) (C := RX3) (T := TX3) (N := 21) hx hb hts hinX3 hown hK hP 0 rfl rfl 8 (by decide) k157 (fun _ h9 => h9) rfl dX3_gather_78 ?_
      refine lv_aload_n hx hb dX3_gather_81 rfl (lv_at hl 2 rfl) ?_
      refine va_get (D := D) (ci := 2) (C := RX3) (T := TX3) (N := 21) hx hb hts hinX3 hown hK hP 0 rfl rfl 2 (by decide) k17 (fun _ h9 => h9) rfl dX3_gather_82 ?_
      refine lv_iload_n hx hb dX3_gather_85 rfl (lv_at hl 3 rfl) ?_
      refine va_iald hx hb hK hP 3 0 rfl rfl h_t dX3_gather_86 ?_
      refine cl_Pi (c_X3_amount4 l _) ⟨hx, hb, hml, hown, hts⟩ (va_cwS 1 hts gX3_gather_X3_amount4 rfl rfl rfl (by decide +kernel) ⟨Nat.le_of_ble_eq_true rfl, Nat.le_of_ble_eq_true rfl⟩) rfl hl.1 rfl (Nat.le_of_ble_eq_true rfl) (Nat.zero_le _) (Nat.zero_le _) dX3_gather_87 ?_
      refine cl_Pi (c_X3_lesser4 l _ _) ⟨hx, hb, hml, hown, hts⟩ (va_cwS 2 hts gX3_gather_X3_lesser4 rfl rfl rfl (by decide +kernel) ⟨Nat.le_of_ble_eq_true rfl, Nat.le_of_ble_eq_true rfl⟩) rfl hl.1 rfl (Nat.le_of_ble_eq_true rfl) (Nat.zero_le _) (Nat.zero_le _) dX3_gather_90 ?_
      refine va_put (D := D) (ci := 2) (ty := .int) (C := RX3) (T := TX3) (N := 21) hx hb hts hinX3 tyX3 tyX3_ok nmX3 hown hK hP hD hS 0 rfl rfl 8 (by decide) k157 (fun _ h9 => h9) rfl (by decide +kernel) rfl rfl (Nat.le_of_ble_eq_true rfl) dX3_gather_93 (fun H locs hP hD hS => ?_)
      have hP : va_P D vwCl (wM K a (pM_we (pM_ti s (f_X3_greater (gM_ti s) (f_X3_amount ((gM_L s) t.toNatClampNeg) 52))) (f_X3_lesser4 (gM_we s) (f_X3_amount4 ((gM_P s) t.toNatClampNeg))))) H := hP
      have hD : va_D A (wM K a (pM_we (pM_ti s (f_X3_greater (gM_ti s) (f_X3_amount ((gM_L s) t.toNatClampNeg) 52))) (f_X3_lesser4 (gM_we s) (f_X3_amount4 ((gM_P s) t.toNatClampNeg))))) := hD
      refine lv_aload_n hx hb dX3_gather_96 rfl (lv_at hl 2 rfl) ?_
      refine lv_iload_n hx hb dX3_gather_97 rfl (lv_at hl 1 rfl) ?_
      refine lv_aload_n hx hb dX3_gather_98 rfl (lv_at hl 2 rfl) ?_
      refine va_get (D := D) (ci := 2) (C := RX3) (T := TX3) (N := 21) hx hb hts hinX3 hown hK hP 0 rfl rfl 9 (by decide) k161 (fun _ h9 => h9) rfl dX3_gather_99 ?_
      refine lv_icmp_le (tgt := 109) hx hb dX3_gather_102 (by decide) (fun c_102 => ?_) (fun c_102 => ?_)
      · refine lv_aload_n hx hb dX3_gather_109 rfl (lv_at hl 2 rfl) ?_
        refine va_get (D := D) (ci := 2) (C := RX3) (T := TX3) (N := 21) hx hb hts hinX3 hown hK hP 0 rfl rfl 9 (by decide) k161 (fun _ h9 => h9) rfl dX3_gather_110 ?_
        refine va_put (D := D) (ci := 2) (ty := .int) (C := RX3) (T := TX3) (N := 21) hx hb hts hinX3 tyX3 tyX3_ok nmX3 hown hK hP hD hS 0 rfl rfl 9 (by decide) k161 (fun _ h9 => h9) rfl (by decide +kernel) rfl rfl (Nat.le_of_ble_eq_true rfl) dX3_gather_113 (fun H locs hP hD hS => ?_)
        have hP : va_P D vwCl (wM K a (pM_co (pM_we (pM_ti s (f_X3_greater (gM_ti s) (f_X3_amount ((gM_L s) t.toNatClampNeg) 52))) (f_X3_lesser4 (gM_we s) (f_X3_amount4 ((gM_P s) t.toNatClampNeg)))) (gM_co s))) H := hP
        have hD : va_D A (wM K a (pM_co (pM_we (pM_ti s (f_X3_greater (gM_ti s) (f_X3_amount ((gM_L s) t.toNatClampNeg) 52))) (f_X3_lesser4 (gM_we s) (f_X3_amount4 ((gM_P s) t.toNatClampNeg)))) (gM_co s))) := hD
        refine lv_aload_n hx hb dX3_gather_116 rfl (lv_at hl 2 rfl) ?_
        refine lv_lload_n hx hb dX3_gather_117 rfl (lv_at hl 0 rfl) ?_
        refine lv_aload_n hx hb dX3_gather_118 rfl (lv_at hl 2 rfl) ?_
        refine va_get (D := D) (ci := 2) (C := RX3) (T := TX3) (N := 21) hx hb hts hinX3 hown hK hP 0 rfl rfl 10 (by decide) k164 (fun _ h9 => h9) rfl dX3_gather_119 ?_
        refine W.lcmp hx hb dX3_gather_122 ?_
        refine lv_if_ge (tgt := 130) hx hb dX3_gather_123 (by decide) (fun c_123 => ?_) (fun c_123 => ?_)
        · have c_123 := (lg_cmp_ge _ _).mp c_123
          refine lv_aload_n hx hb dX3_gather_130 rfl (lv_at hl 2 rfl) ?_
          refine va_get (D := D) (ci := 2) (C := RX3) (T := TX3) (N := 21) hx hb hts hinX3 hown hK hP 0 rfl rfl 10 (by decide) k164 (fun _ h9 => h9) rfl dX3_gather_131 ?_
          refine va_put (D := D) (ci := 2) (ty := .long) (C := RX3) (T := TX3) (N := 21) hx hb hts hinX3 tyX3 tyX3_ok nmX3 hown hK hP hD hS 0 rfl rfl 10 (by decide) k164 (fun _ h9 => h9) rfl (by decide +kernel) rfl rfl (Nat.le_of_ble_eq_true rfl) dX3_gather_134 (fun H locs hP hD hS => ?_)
          have hP : va_P D vwCl (wM K a (pM_tu (pM_co (pM_we (pM_ti s (f_X3_greater (gM_ti s) (f_X3_amount ((gM_L s) t.toNatClampNeg) 52))) (f_X3_lesser4 (gM_we s) (f_X3_amount4 ((gM_P s) t.toNatClampNeg)))) (gM_co s)) (gM_tu s))) H := hP
          have hD : va_D A (wM K a (pM_tu (pM_co (pM_we (pM_ti s (f_X3_greater (gM_ti s) (f_X3_amount ((gM_L s) t.toNatClampNeg) 52))) (f_X3_lesser4 (gM_we s) (f_X3_amount4 ((gM_P s) t.toNatClampNeg)))) (gM_co s)) (gM_tu s))) := hD
          subst ex6 ex4
          exact rt_V (s1 := _) hx hb hr hlk hK hP hD hS (Eq.symm (Eq.trans (if_neg c_6) (Eq.trans (if_neg c_34) (Eq.trans (if_pos c_102) (Eq.trans (if_pos c_123) (rfl)))))) dX3_gather_137
        · have c_123 := mt (lg_cmp_ge _ _).mpr c_123
          refine lv_lload_n hx hb dX3_gather_126 rfl (lv_at hl 0 rfl) ?_
          refine lv_goto (tgt := 134) hx hb dX3_gather_127 (by decide) ?_
          refine va_put (D := D) (ci := 2) (ty := .long) (C := RX3) (T := TX3) (N := 21) hx hb hts hinX3 tyX3 tyX3_ok nmX3 hown hK hP hD hS 0 rfl rfl 10 (by decide) k164 (fun _ h9 => h9) rfl (by decide +kernel) rfl rfl (Nat.le_of_ble_eq_true rfl) dX3_gather_134 (fun H locs hP hD hS => ?_)
          have hP : va_P D vwCl (wM K a (pM_tu (pM_co (pM_we (pM_ti s (f_X3_greater (gM_ti s) (f_X3_amount ((gM_L s) t.toNatClampNeg) 52))) (f_X3_lesser4 (gM_we s) (f_X3_amount4 ((gM_P s) t.toNatClampNeg)))) (gM_co s)) x6)) H := hP
          have hD : va_D A (wM K a (pM_tu (pM_co (pM_we (pM_ti s (f_X3_greater (gM_ti s) (f_X3_amount ((gM_L s) t.toNatClampNeg) 52))) (f_X3_lesser4 (gM_we s) (f_X3_amount4 ((gM_P s) t.toNatClampNeg)))) (gM_co s)) x6)) := hD
          subst ex6 ex4
          exact rt_V (s1 := _) hx hb hr hlk hK hP hD hS (Eq.symm (Eq.trans (if_neg c_6) (Eq.trans (if_neg c_34) (Eq.trans (if_pos c_102) (Eq.trans (if_neg c_123) (rfl)))))) dX3_gather_137
      · refine lv_iload_n hx hb dX3_gather_105 rfl (lv_at hl 1 rfl) ?_
        refine lv_goto (tgt := 113) hx hb dX3_gather_106 (by decide) ?_
        refine va_put (D := D) (ci := 2) (ty := .int) (C := RX3) (T := TX3) (N := 21) hx hb hts hinX3 tyX3 tyX3_ok nmX3 hown hK hP hD hS 0 rfl rfl 9 (by decide) k161 (fun _ h9 => h9) rfl (by decide +kernel) rfl rfl (Nat.le_of_ble_eq_true rfl) dX3_gather_113 (fun H locs hP hD hS => ?_)
        have hP : va_P D vwCl (wM K a (pM_co (pM_we (pM_ti s (f_X3_greater (gM_ti s) (f_X3_amount ((gM_L s) t.toNatClampNeg) 52))) (f_X3_lesser4 (gM_we s) (f_X3_amount4 ((gM_P s) t.toNatClampNeg)))) x4)) H := hP
        have hD : va_D A (wM K a (pM_co (pM_we (pM_ti s (f_X3_greater (gM_ti s) (f_X3_amount ((gM_L s) t.toNatClampNeg) 52))) (f_X3_lesser4 (gM_we s) (f_X3_amount4 ((gM_P s) t.toNatClampNeg)))) x4)) := hD
        refine lv_aload_n hx hb dX3_gather_116 rfl (lv_at hl 2 rfl) ?_
        refine lv_lload_n hx hb dX3_gather_117 rfl (lv_at hl 0 rfl) ?_
        refine lv_aload_n hx hb dX3_gather_118 rfl (lv_at hl 2 rfl) ?_
        refine va_get (D := D) (ci := 2) (C := RX3) (T := TX3) (N := 21) hx hb hts hinX3 hown hK hP 0 rfl rfl 10 (by decide) k164 (fun _ h9 => h9) rfl dX3_gather_119 ?_
        refine W.lcmp hx hb dX3_gather_122 ?_
        refine lv_if_ge (tgt := 130) hx hb dX3_gather_123 (by decide) (fun c_123 => ?_) (fun c_123 => ?_)
        · have c_123 := (lg_cmp_ge _ _).mp c_123
          refine lv_aload_n hx hb dX3_gather_130 rfl (lv_at hl 2 rfl) ?_
          refine va_get (D := D) (ci := 2) (C := RX3) (T := TX3) (N := 21) hx hb hts hinX3 hown hK hP 0 rfl rfl 10 (by decide) k164 (fun _ h9 => h9) rfl dX3_gather_131 ?_
          refine va_put (D := D) (ci := 2) (ty := .long) (C := RX3) (T := TX3) (N := 21) hx hb hts hinX3 tyX3 tyX3_ok nmX3 hown hK hP hD hS 0 rfl rfl 10 (by decide) k164 (fun _ h9 => h9) rfl (by decide +kernel) rfl rfl (Nat.le_of_ble_eq_true rfl) dX3_gather_134 (fun H locs hP hD hS => ?_)
          have hP : va_P D vwCl (wM K a (pM_tu (pM_co (pM_we (pM_ti s (f_X3_greater (gM_ti s) (f_X3_amount ((gM_L s) t.toNatClampNeg) 52))) (f_X3_lesser4 (gM_we s) (f_X3_amount4 ((gM_P s) t.toNatClampNeg)))) x4) (gM_tu s))) H := hP
          have hD : va_D A (wM K a (pM_tu (pM_co (pM_we (pM_ti s (f_X3_greater (gM_ti s) (f_X3_amount ((gM_L s) t.toNatClampNeg) 52))) (f_X3_lesser4 (gM_we s) (f_X3_amount4 ((gM_P s) t.toNatClampNeg)))) x4) (gM_tu s))) := hD
          subst ex6 ex4
          exact rt_V (s1 := _) hx hb hr hlk hK hP hD hS (Eq.symm (Eq.trans (if_neg c_6) (Eq.trans (if_neg c_34) (Eq.trans (if_neg c_102) (Eq.trans (if_pos c_123) (rfl)))))) dX3_gather_137
        · have c_123 := mt (lg_cmp_ge _ _).mpr c_123
          refine lv_lload_n hx hb dX3_gather_126 rfl (lv_at hl 0 rfl) ?_
          refine lv_goto (tgt := 134) hx hb dX3_gather_127 (by decide) ?_
          refine va_put (D := D) (ci := 2) (ty := .long) (C := RX3) (T := TX3) (N := 21) hx hb hts hinX3 tyX3 tyX3_ok nmX3 hown hK hP hD hS 0 rfl rfl 10 (by decide) k164 (fun _ h9 => h9) rfl (by decide +kernel) rfl rfl (Nat.le_of_ble_eq_true rfl) dX3_gather_134 (fun H locs hP hD hS => ?_)
          have hP : va_P D vwCl (wM K a (pM_tu (pM_co (pM_we (pM_ti s (f_X3_greater (gM_ti s) (f_X3_amount ((gM_L s) t.toNatClampNeg) 52))) (f_X3_lesser4 (gM_we s) (f_X3_amount4 ((gM_P s) t.toNatClampNeg)))) x4) x6)) H := hP
          have hD : va_D A (wM K a (pM_tu (pM_co (pM_we (pM_ti s (f_X3_greater (gM_ti s) (f_X3_amount ((gM_L s) t.toNatClampNeg) 52))) (f_X3_lesser4 (gM_we s) (f_X3_amount4 ((gM_P s) t.toNatClampNeg)))) x4) x6)) := hD
          subst ex6 ex4
          exact rt_V (s1 := _) hx hb hr hlk hK hP hD hS (Eq.symm (Eq.trans (if_neg c_6) (Eq.trans (if_neg c_34) (Eq.trans (if_neg c_102) (Eq.trans (if_neg c_123) (rfl)))))) dX3_gather_137

def f_X3_climb (s : SM) (t : Int32) : SM := if (f_X3_amount ((gM_L s) t.toNatClampNeg) 52) ≤ 0 then (if (f_X3_amount4 ((gM_P s) t.toNatClampNeg)) ≤ 0 then (s) else (if 0 ≤ ((gM_P s) t.toNatClampNeg) then (pM_T s (vp_updL (gM_T s) t.toNatClampNeg (((gM_T s) t.toNatClampNeg) + 1))) else (pM_T s (vp_updL (gM_T s) t.toNatClampNeg (((gM_T s) t.toNatClampNeg) + (-1)))))) else (if 0 ≤ ((gM_L s) t.toNatClampNeg) then (if (f_X3_amount4 ((gM_P s) t.toNatClampNeg)) ≤ 0 then (pM_K s (upd (gM_K s) t.toNatClampNeg (((gM_K s) t.toNatClampNeg) + 1))) else (if 0 ≤ ((gM_P s) t.toNatClampNeg) then (pM_T (pM_K s (upd (gM_K s) t.toNatClampNeg (((gM_K s) t.toNatClampNeg) + 1))) (vp_updL (gM_T s) t.toNatClampNeg (((gM_T s) t.toNatClampNeg) + 1))) else (pM_T (pM_K s (upd (gM_K s) t.toNatClampNeg (((gM_K s) t.toNatClampNeg) + 1))) (vp_updL (gM_T s) t.toNatClampNeg (((gM_T s) t.toNatClampNeg) + (-1)))))) else (if (f_X3_amount4 ((gM_P s) t.toNatClampNeg)) ≤ 0 then (pM_K s (upd (gM_K s) t.toNatClampNeg (((gM_K s) t.toNatClampNeg) + (-1)))) else (if 0 ≤ ((gM_P s) t.toNatClampNeg) then (pM_T (pM_K s (upd (gM_K s) t.toNatClampNeg (((gM_K s) t.toNatClampNeg) + (-1)))) (vp_updL (gM_T s) t.toNatClampNeg (((gM_T s) t.toNatClampNeg) + 1))) else (pM_T (pM_K s (upd (gM_K s) t.toNatClampNeg (((gM_K s) t.toNatClampNeg) + (-1)))) (vp_updL (gM_T s) t.toNatClampNeg (((gM_T s) t.toNatClampNeg) + (-1)))))))
set_option maxHeartbeats 4000000 in
set_option maxRecDepth 100000 in
theorem c_X3_climb (l : Launch) (D : va_G) (K : ClassId × ClassId × ClassId) (a : Nat → Nat) (s : SM) (t : Int32) (h_t : vp_in t 8)  : MetV l yX3_climb wsX3_climb { frames := 2, cells := 0, slots := 0, locals := 42 } D vwCl (tyK K) (wM K a) [.ref (a 0), .int t] s (f_X3_climb s t) := by
  intro sz0
  refine en_W (cc := cX3_climb) (maxL := 2) (ret := none) (Qc := fun A => va_Qv (fun u0 : SM => u0 = f_X3_climb s t) (bs_a D vwCl (tyK K) (wM K a) A) A) (by decide) rfl (Nat.le_of_ble_eq_true rfl) ?_ sz0
  intro p e st m below meth c ls A hx hb hr hml hts hown hlk hA hK hP hD hS hl
  have hown : st.vm.findClass RX3 = some m.cls := hown
  have hl : lv_has ls 2 [(0, .ref (a 0)), (1, .int t)] := hl
  have hinX3 : ∀ w ∈ u_ws RX3 TX3 21, w ∈ wsX3_climb := fun w h => List.mem_cons_of_mem _ (List.mem_append_right _ h)
  have k13 := hts (.fieldLink RX3 13 "PuppetBarModel" "length" "[J") (by decide +kernel)
  have k17 := hts (.fieldLink RX3 17 "PuppetBarModel" "pull" "[I") (by decide +kernel)
  have k24 := hts (.fieldLink RX3 24 "PuppetBarModel" "twist" "[J") (by decide +kernel)
  have k78 := hts (.constantLong RX3 78 (-1)) (by decide +kernel)
  have k21 := hts (.fieldLink RX3 21 "PuppetBarModel" "knots" "[I") (by decide +kernel)
  refine lv_aload_n hx hb dX3_climb_0 rfl (lv_at hl 0 rfl) ?_
  refine va_get (D := D) (ci := 2) (C := RX3) (T := TX3) (N := 21) hx hb hts hinX3 hown hK hP 0 rfl rfl 1 (by decide) k13 (fun _ h9 => h9) rfl dX3_climb_1 ?_
  refine lv_iload_n hx hb dX3_climb_4 rfl (lv_at hl 1 rfl) ?_
  refine va_lald hx hb hK hP 2 1 rfl rfl h_t dX3_climb_5 ?_
  refine lv_bipush (v := 52) hx hb dX3_climb_6 (by decide) ?_
  refine cl_Pl (c_X3_amount l _ _) ⟨hx, hb, hml, hown, hts⟩ (va_cwS 2 hts gX3_climb_X3_amount rfl rfl rfl (by decide +kernel) ⟨Nat.le_of_ble_eq_true rfl, Nat.le_of_ble_eq_true rfl⟩) rfl hl.1 rfl (Nat.le_of_ble_eq_true rfl) (Nat.zero_le _) (Nat.zero_le _) dX3_climb_8 ?_
  refine lv_lconst (v := 0) hx hb dX3_climb_11 (by decide) ?_
  refine W.lcmp hx hb dX3_climb_12 ?_
  refine lv_if_le (tgt := 41) hx hb dX3_climb_13 (by decide) (fun c_13 => ?_) (fun c_13 => ?_)
  · have c_13 := (lg_cmp_le _ _).mp c_13
    refine lv_aload_n hx hb dX3_climb_41 rfl (lv_at hl 0 rfl) ?_
    refine va_get (D := D) (ci := 2) (C := RX3) (T := TX3) (N := 21) hx hb hts hinX3 hown hK hP 0 rfl rfl 2 (by decide) k17 (fun _ h9 => h9) rfl dX3_climb_42 ?_
    refine lv_iload_n hx hb dX3_climb_45 rfl (lv_at hl 1 rfl) ?_
    refine va_iald hx hb hK hP 3 0 rfl rfl h_t dX3_climb_46 ?_
    refine cl_Pi (c_X3_amount4 l _) ⟨hx, hb, hml, hown, hts⟩ (va_cwS 1 hts gX3_climb_X3_amount4 rfl rfl rfl (by decide +kernel) ⟨Nat.le_of_ble_eq_true rfl, Nat.le_of_ble_eq_true rfl⟩) rfl hl.1 rfl (Nat.le_of_ble_eq_true rfl) (Nat.zero_le _) (Nat.zero_le _) dX3_climb_47 ?_
    refine lv_if_le (tgt := 78) hx hb dX3_climb_50 (by decide) (fun c_50 => ?_) (fun c_50 => ?_)
    · exact rt_V (s1 := _) hx hb hr hlk hK hP hD hS (Eq.symm (Eq.trans (if_pos c_13) (Eq.trans (if_pos c_50) (rfl)))) dX3_climb_78
    · refine lv_aload_n hx hb dX3_climb_53 rfl (lv_at hl 0 rfl) ?_
      refine va_get (D := D) (ci := 2) (C := RX3) (T := TX3) (N := 21) hx hb hts hinX3 hown hK hP 0 rfl rfl 4 (by decide) k24 (fun _ h9 => h9) rfl dX3_climb_54 ?_
      refine lv_iload_n hx hb dX3_climb_57 rfl (lv_at hl 1 rfl) ?_
      refine lv_dup2_11 hx hb dX3_climb_58 rfl rfl ?_
      refine va_lald hx hb hK hP 5 1 rfl rfl h_t dX3_climb_59 ?_
      refine lv_aload_n hx hb dX3_climb_60 rfl (lv_at hl 0 rfl) ?_
      refine va_get (D := D) (ci := 2) (C := RX3) (T := TX3) (N := 21) hx hb hts hinX3 hown hK hP 0 rfl rfl 2 (by decide) k17 (fun _ h9 => h9) rfl dX3_climb_61 ?_
      refine lv_iload_n hx hb dX3_climb_64 rfl (lv_at hl 1 rfl) ?_
      refine va_iald hx hb hK hP 3 0 rfl rfl h_t dX3_climb_65 ?_
      refine lv_if_ge (tgt := 75) hx hb dX3_climb_66 (by decide) (fun c_66 => ?_) (fun c_66 => ?_)
      · refine lv_lconst (v := 1) hx hb dX3_climb_75 (by decide) ?_
        refine lv_ladd hx hb dX3_climb_76 ?_
        refine va_last hx hb hK hP hD hS 5 1 rfl rfl h_t dX3_climb_77 (fun H locs hP hD hS => ?_)
        have hP : va_P D vwCl (wM K a (pM_T s (vp_updL (gM_T s) t.toNatClampNeg (((gM_T s) t.toNatClampNeg) + 1)))) H := hP
        have hD : va_D A (wM K a (pM_T s (vp_updL (gM_T s) t.toNatClampNeg (((gM_T s) t.toNatClampNeg) + 1)))) := hD
        exact rt_V (s1 := _) hx hb hr hlk hK hP hD hS (Eq.symm (Eq.trans (if_pos c_13) (Eq.trans (if_neg c_50) (Eq.trans (if_pos c_66) (rfl))))) dX3_climb_78
      · refine lv_ldc2 hx hb hown k78 dX3_climb_69 ?_
        refine lv_goto (tgt := 76) hx hb dX3_climb_72 (by decide) ?_
        refine lv_ladd hx hb dX3_climb_76 ?_
        refine va_last hx hb hK hP hD hS 5 1 rfl rfl h_t dX3_climb_77 (fun H locs hP hD hS => ?_)
        have hP : va_P D vwCl (wM K a (pM_T s (vp_updL (gM_T s) t.toNatClampNeg (((gM_T s) t.toNatClampNeg) + (-1))))) H := hP
        have hD : va_D A (wM K a (pM_T s (vp_updL (gM_T s) t.toNatClampNeg (((gM_T s) t.toNatClampNeg) + (-1))))) := hD
        exact rt_V (s1 := _) hx hb hr hlk hK hP hD hS (Eq.symm (Eq.trans (if_pos c_13) (Eq.trans (if_neg c_50) (Eq.trans (if_neg c_66) (rfl))))) dX3_climb_78
  · have c_13 := mt (lg_cmp_le _ _).mpr c_13
    refine lv_aload_n hx hb dX3_climb_16 rfl (lv_at hl 0 rfl) ?_
    refine va_get (D := D) (ci := 2) (C := RX3) (T := TX3) (N := 21) hx hb hts hinX3 hown hK hP 0 rfl rfl 3 (by decide) k21 (fun _ h9 => h9) rfl dX3_climb_17 ?_
    refine lv_iload_n hx hb dX3_climb_20 rfl (lv_at hl 1 rfl) ?_
    refine lv_dup2_11 hx hb dX3_climb_21 rfl rfl ?_
    refine va_iald hx hb hK hP 4 0 rfl rfl h_t dX3_climb_22 ?_
    refine lv_aload_n hx hb dX3_climb_23 rfl (lv_at hl 0 rfl) ?_
    refine va_get (D := D) (ci := 2) (C := RX3) (T := TX3) (N := 21) hx hb hts hinX3 hown hK hP 0 rfl rfl 1 (by decide) k13 (fun _ h9 => h9) rfl dX3_climb_24 ?_
    refine lv_iload_n hx hb dX3_climb_27 rfl (lv_at hl 1 rfl) ?_
    refine va_lald hx hb hK hP 2 1 rfl rfl h_t dX3_climb_28 ?_
    refine lv_lconst (v := 0) hx hb dX3_climb_29 (by decide) ?_
    refine W.lcmp hx hb dX3_climb_30 ?_
    refine lv_if_ge (tgt := 38) hx hb dX3_climb_31 (by decide) (fun c_31 => ?_) (fun c_31 => ?_)
    · have c_31 := (lg_cmp_ge _ _).mp c_31
      refine lv_iconst (v := 1) hx hb dX3_climb_38 (by decide) ?_
      refine lv_iadd hx hb dX3_climb_39 ?_
      refine va_iast hx hb hK hP hD hS 4 0 rfl rfl h_t dX3_climb_40 (fun H locs hP hD hS => ?_)
      have hP : va_P D vwCl (wM K a (pM_K s (upd (gM_K s) t.toNatClampNeg (((gM_K s) t.toNatClampNeg) + 1)))) H := hP
      have hD : va_D A (wM K a (pM_K s (upd (gM_K s) t.toNatClampNeg (((gM_K s) t.toNatClampNeg) + 1)))) := hD
      refine lv_aload_n hx hb dX3_climb_41 rfl (lv_at hl 0 rfl) ?_
      refine va_get (D := D) (ci := 2) (C := RX3) (T := TX3) (N := 21) hx hb hts hinX3 hown hK hP 0 rfl rfl 2 (by decide) k17 (fun _ h9 => h9) rfl dX3_climb_42 ?_
      refine lv_iload_n hx hb dX3_climb_45 rfl (lv_at hl 1 rfl) ?_
      refine va_iald hx hb hK hP 3 0 rfl rfl h_t dX3_climb_46 ?_
      refine cl_Pi (c_X3_amount4 l _) ⟨hx, hb, hml, hown, hts⟩ (va_cwS 1 hts gX3_climb_X3_amount4 rfl rfl rfl (by decide +kernel) ⟨Nat.le_of_ble_eq_true rfl, Nat.le_of_ble_eq_true rfl⟩) rfl hl.1 rfl (Nat.le_of_ble_eq_true rfl) (Nat.zero_le _) (Nat.zero_le _) dX3_climb_47 ?_
      refine lv_if_le (tgt := 78) hx hb dX3_climb_50 (by decide) (fun c_50 => ?_) (fun c_50 => ?_)
      · exact rt_V (s1 := _) hx hb hr hlk hK hP hD hS (Eq.symm (Eq.trans (if_neg c_13) (Eq.trans (if_pos c_31) (Eq.trans (if_pos c_50) (rfl))))) dX3_climb_78
      · refine lv_aload_n hx hb dX3_climb_53 rfl (lv_at hl 0 rfl) ?_
        refine va_get (D := D) (ci := 2) (C := RX3) (T := TX3) (N := 21) hx hb hts hinX3 hown hK hP 0 rfl rfl 4 (by decide) k24 (fun _ h9 => h9) rfl dX3_climb_54 ?_
        refine lv_iload_n hx hb dX3_climb_57 rfl (lv_at hl 1 rfl) ?_
        refine lv_dup2_11 hx hb dX3_climb_58 rfl rfl ?_
        refine va_lald hx hb hK hP 5 1 rfl rfl h_t dX3_climb_59 ?_
        refine lv_aload_n hx hb dX3_climb_60 rfl (lv_at hl 0 rfl) ?_
        refine va_get (D := D) (ci := 2) (C := RX3) (T := TX3) (N := 21) hx hb hts hinX3 hown hK hP 0 rfl rfl 2 (by decide) k17 (fun _ h9 => h9) rfl dX3_climb_61 ?_
        refine lv_iload_n hx hb dX3_climb_64 rfl (lv_at hl 1 rfl) ?_
        refine va_iald hx hb hK hP 3 0 rfl rfl h_t dX3_climb_65 ?_
        refine lv_if_ge (tgt := 75) hx hb dX3_climb_66 (by decide) (fun c_66 => ?_) (fun c_66 => ?_)
        · refine lv_lconst (v := 1) hx hb dX3_climb_75 (by decide) ?_
          refine lv_ladd hx hb dX3_climb_76 ?_
          refine va_last hx hb hK hP hD hS 5 1 rfl rfl h_t dX3_climb_77 (fun H locs hP hD hS => ?_)
          have hP : va_P D vwCl (wM K a (pM_T (pM_K s (upd (gM_K s) t.toNatClampNeg (((gM_K s) t.toNatClampNeg) + 1))) (vp_updL (gM_T s) t.toNatClampNeg (((gM_T s) t.toNatClampNeg) + 1)))) H := hP
          have hD : va_D A (wM K a (pM_T (pM_K s (upd (gM_K s) t.toNatClampNeg (((gM_K s) t.toNatClampNeg) + 1))) (vp_updL (gM_T s) t.toNatClampNeg (((gM_T s) t.toNatClampNeg) + 1)))) := hD
          exact rt_V (s1 := _) hx hb hr hlk hK hP hD hS (Eq.symm (Eq.trans (if_neg c_13) (Eq.trans (if_pos c_31) (Eq.trans (if_neg c_50) (Eq.trans (if_pos c_66) (rfl)))))) dX3_climb_78
        · refine lv_ldc2 hx hb hown k78 dX3_climb_69 ?_
          refine lv_goto (tgt := 76) hx hb dX3_climb_72 (by decide) ?_
          refine lv_ladd hx hb dX3_climb_76 ?_
          refine va_last hx hb hK hP hD hS 5 1 rfl rfl h_t dX3_climb_77 (fun H locs hP hD hS => ?_)
          have hP : va_P D vwCl (wM K a (pM_T (pM_K s (upd (gM_K s) t.toNatClampNeg (((gM_K s) t.toNatClampNeg) + 1))) (vp_updL (gM_T s) t.toNatClampNeg (((gM_T s) t.toNatClampNeg) + (-1))))) H := hP
          have hD : va_D A (wM K a (pM_T (pM_K s (upd (gM_K s) t.toNatClampNeg (((gM_K s) t.toNatClampNeg) + 1))) (vp_updL (gM_T s) t.toNatClampNeg (((gM_T s) t.toNatClampNeg) + (-1))))) := hD
          exact rt_V (s1 := _) hx hb hr hlk hK hP hD hS (Eq.symm (Eq.trans (if_neg c_13) (Eq.trans (if_pos c_31) (Eq.trans (if_neg c_50) (Eq.trans (if_neg c_66) (rfl)))))) dX3_climb_78
    · have c_31 := mt (lg_cmp_ge _ _).mpr c_31
      refine lv_iconst (v := (-1)) hx hb dX3_climb_34 (by decide) ?_
      refine lv_goto (tgt := 39) hx hb dX3_climb_35 (by decide) ?_
      refine lv_iadd hx hb dX3_climb_39 ?_
      refine va_iast hx hb hK hP hD hS 4 0 rfl rfl h_t dX3_climb_40 (fun H locs hP hD hS => ?_)
      have hP : va_P D vwCl (wM K a (pM_K s (upd (gM_K s) t.toNatClampNeg (((gM_K s) t.toNatClampNeg) + (-1))))) H := hP
      have hD : va_D A (wM K a (pM_K s (upd (gM_K s) t.toNatClampNeg (((gM_K s) t.toNatClampNeg) + (-1))))) := hD
      refine lv_aload_n hx hb dX3_climb_41 rfl (lv_at hl 0 rfl) ?_
      refine va_get (D := D) (ci := 2) (C := RX3) (T := TX3) (N := 21) hx hb hts hinX3 hown hK hP 0 rfl rfl 2 (by decide) k17 (fun _ h9 => h9) rfl dX3_climb_42 ?_
      refine lv_iload_n hx hb dX3_climb_45 rfl (lv_at hl 1 rfl) ?_
      refine va_iald hx hb hK hP 3 0 rfl rfl h_t dX3_climb_46 ?_
      refine cl_Pi (c_X3_amount4 l _) ⟨hx, hb, hml, hown, hts⟩ (va_cwS 1 hts gX3_climb_X3_amount4 rfl rfl rfl (by decide +kernel) ⟨Nat.le_of_ble_eq_true rfl, Nat.le_of_ble_eq_true rfl⟩) rfl hl.1 rfl (Nat.le_of_ble_eq_true rfl) (Nat.zero_le _) (Nat.zero_le _) dX3_climb_47 ?_
      refine lv_if_le (tgt := 78) hx hb dX3_climb_50 (by decide) (fun c_50 => ?_) (fun c_50 => ?_)
      · exact rt_V (s1 := _) hx hb hr hlk hK hP hD hS (Eq.symm (Eq.trans (if_neg c_13) (Eq.trans (if_neg c_31) (Eq.trans (if_pos c_50) (rfl))))) dX3_climb_78
      · refine lv_aload_n hx hb dX3_climb_53 rfl (lv_at hl 0 rfl) ?_
        refine va_get (D := D) (ci := 2) (C := RX3) (T := TX3) (N := 21) hx hb hts hinX3 hown hK hP 0 rfl rfl 4 (by decide) k24 (fun _ h9 => h9) rfl dX3_climb_54 ?_
        refine lv_iload_n hx hb dX3_climb_57 rfl (lv_at hl 1 rfl) ?_
        refine lv_dup2_11 hx hb dX3_climb_58 rfl rfl ?_
        refine va_lald hx hb hK hP 5 1 rfl rfl h_t dX3_climb_59 ?_
        refine lv_aload_n hx hb dX3_climb_60 rfl (lv_at hl 0 rfl) ?_
        refine va_get (D := D) (ci := 2) (C := RX3) (T := TX3) (N := 21) hx hb hts hinX3 hown hK hP 0 rfl rfl 2 (by decide) k17 (fun _ h9 => h9) rfl dX3_climb_61 ?_
        refine lv_iload_n hx hb dX3_climb_64 rfl (lv_at hl 1 rfl) ?_
        refine va_iald hx hb hK hP 3 0 rfl rfl h_t dX3_climb_65 ?_
        refine lv_if_ge (tgt := 75) hx hb dX3_climb_66 (by decide) (fun c_66 => ?_) (fun c_66 => ?_)
        · refine lv_lconst (v := 1) hx hb dX3_climb_75 (by decide) ?_
          refine lv_ladd hx hb dX3_climb_76 ?_
          refine va_last hx hb hK hP hD hS 5 1 rfl rfl h_t dX3_climb_77 (fun H locs hP hD hS => ?_)
          have hP : va_P D vwCl (wM K a (pM_T (pM_K s (upd (gM_K s) t.toNatClampNeg (((gM_K s) t.toNatClampNeg) + (-1)))) (vp_updL (gM_T s) t.toNatClampNeg (((gM_T s) t.toNatClampNeg) + 1)))) H := hP
          have hD : va_D A (wM K a (pM_T (pM_K s (upd (gM_K s) t.toNatClampNeg (((gM_K s) t.toNatClampNeg) + (-1)))) (vp_updL (gM_T s) t.toNatClampNeg (((gM_T s) t.toNatClampNeg) + 1)))) := hD
          exact rt_V (s1 := _) hx hb hr hlk hK hP hD hS (Eq.symm (Eq.trans (if_neg c_13) (Eq.trans (if_neg c_31) (Eq.trans (if_neg c_50) (Eq.trans (if_pos c_66) (rfl)))))) dX3_climb_78
        · refine lv_ldc2 hx hb hown k78 dX3_climb_69 ?_
          refine lv_goto (tgt := 76) hx hb dX3_climb_72 (by decide) ?_
          refine lv_ladd hx hb dX3_climb_76 ?_
          refine va_last hx hb hK hP hD hS 5 1 rfl rfl h_t dX3_climb_77 (fun H locs hP hD hS => ?_)
          have hP : va_P D vwCl (wM K a (pM_T (pM_K s (upd (gM_K s) t.toNatClampNeg (((gM_K s) t.toNatClampNeg) + (-1)))) (vp_updL (gM_T s) t.toNatClampNeg (((gM_T s) t.toNatClampNeg) + (-1))))) H := hP
          have hD : va_D A (wM K a (pM_T (pM_K s (upd (gM_K s) t.toNatClampNeg (((gM_K s) t.toNatClampNeg) + (-1)))) (vp_updL (gM_T s) t.toNatClampNeg (((gM_T s) t.toNatClampNeg) + (-1))))) := hD
          exact rt_V (s1 := _) hx hb hr hlk hK hP hD hS (Eq.symm (Eq.trans (if_neg c_13) (Eq.trans (if_neg c_31) (Eq.trans (if_neg c_50) (Eq.trans (if_neg c_66) (rfl)))))) dX3_climb_78

def f_X3_stretch (s : SM) (t : Int32) (u : Int32) : SM := if ((gM_K s) u.toNatClampNeg) ≤ ((gM_K s) t.toNatClampNeg) then (if ((gM_T s) u.toNatClampNeg) ≤ ((gM_T s) t.toNatClampNeg) then (pM_T (pM_K (pM_P (pM_L s (vp_updL (gM_L s) t.toNatClampNeg (f_X3_greater ((gM_L s) t.toNatClampNeg) ((gM_L s) u.toNatClampNeg)))) (upd (gM_P s) t.toNatClampNeg (f_X3_greater4 ((gM_P s) t.toNatClampNeg) ((gM_P s) u.toNatClampNeg)))) (upd (gM_K s) t.toNatClampNeg ((gM_K s) t.toNatClampNeg))) (vp_updL (gM_T s) t.toNatClampNeg ((gM_T s) t.toNatClampNeg))) else (pM_T (pM_K (pM_P (pM_L s (vp_updL (gM_L s) t.toNatClampNeg (f_X3_greater ((gM_L s) t.toNatClampNeg) ((gM_L s) u.toNatClampNeg)))) (upd (gM_P s) t.toNatClampNeg (f_X3_greater4 ((gM_P s) t.toNatClampNeg) ((gM_P s) u.toNatClampNeg)))) (upd (gM_K s) t.toNatClampNeg ((gM_K s) t.toNatClampNeg))) (vp_updL (gM_T s) t.toNatClampNeg ((gM_T s) u.toNatClampNeg)))) else (if ((gM_T s) u.toNatClampNeg) ≤ ((gM_T s) t.toNatClampNeg) then (pM_T (pM_K (pM_P (pM_L s (vp_updL (gM_L s) t.toNatClampNeg (f_X3_greater ((gM_L s) t.toNatClampNeg) ((gM_L s) u.toNatClampNeg)))) (upd (gM_P s) t.toNatClampNeg (f_X3_greater4 ((gM_P s) t.toNatClampNeg) ((gM_P s) u.toNatClampNeg)))) (upd (gM_K s) t.toNatClampNeg ((gM_K s) u.toNatClampNeg))) (vp_updL (gM_T s) t.toNatClampNeg ((gM_T s) t.toNatClampNeg))) else (pM_T (pM_K (pM_P (pM_L s (vp_updL (gM_L s) t.toNatClampNeg (f_X3_greater ((gM_L s) t.toNatClampNeg) ((gM_L s) u.toNatClampNeg)))) (upd (gM_P s) t.toNatClampNeg (f_X3_greater4 ((gM_P s) t.toNatClampNeg) ((gM_P s) u.toNatClampNeg)))) (upd (gM_K s) t.toNatClampNeg ((gM_K s) u.toNatClampNeg))) (vp_updL (gM_T s) t.toNatClampNeg ((gM_T s) u.toNatClampNeg))))
set_option maxHeartbeats 4000000 in
set_option maxRecDepth 100000 in
theorem c_X3_stretch (l : Launch) (D : va_G) (K : ClassId × ClassId × ClassId) (a : Nat → Nat) (s : SM) (t : Int32) (u : Int32) (h_t : vp_in t 8) (h_u : vp_in u 8)  : MetV l yX3_stretch wsX3_stretch { frames := 2, cells := 0, slots := 0, locals := 44 } D vwCl (tyK K) (wM K a) [.ref (a 0), .int t, .int u] s (f_X3_stretch s t u) := by
  intro sz0
  refine en_W (cc := cX3_stretch) (maxL := 3) (ret := none) (Qc := fun A => va_Qv (fun u0 : SM => u0 = f_X3_stretch s t u) (bs_a D vwCl (tyK K) (wM K a) A) A) (by decide) rfl (Nat.le_of_ble_eq_true rfl) ?_ sz0
  intro p e st m below meth c ls A hx hb hr hml hts hown hlk hA hK hP hD hS hl
  have hown : st.vm.findClass RX3 = some m.cls := hown
  have hl : lv_has ls 3 [(0, .ref (a 0)), (1, .int t), (2, .int u)] := hl
  have hinX3 : ∀ w ∈ u_ws RX3 TX3 21, w ∈ wsX3_stretch := fun w h => List.mem_cons_of_mem _ (List.mem_append_right _ h)
  have k13 := hts (.fieldLink RX3 13 "PuppetBarModel" "length" "[J") (by decide +kernel)
  have k17 := hts (.fieldLink RX3 17 "PuppetBarModel" "pull" "[I") (by decide +kernel)
  have k21 := hts (.fieldLink RX3 21 "PuppetBarModel" "knots" "[I") (by decide +kernel)
  have k24 := hts (.fieldLink RX3 24 "PuppetBarModel" "twist" "[J") (by decide +kernel)
  refine lv_aload_n hx hb dX3_stretch_0 rfl (lv_at hl 0 rfl) ?_
  refine va_get (D := D) (ci := 2) (C := RX3) (T := TX3) (N := 21) hx hb hts hinX3 hown hK hP 0 rfl rfl 1 (by decide) k13 (fun _ h9 => h9) rfl dX3_stretch_1 ?_
  refine lv_iload_n hx hb dX3_stretch_4 rfl (lv_at hl 1 rfl) ?_
  refine lv_aload_n hx hb dX3_stretch_5 rfl (lv_at hl 0 rfl) ?_
  refine va_get (D := D) (ci := 2) (C := RX3) (T := TX3) (N := 21) hx hb hts hinX3 hown hK hP 0 rfl rfl 1 (by decide) k13 (fun _ h9 => h9) rfl dX3_stretch_6 ?_
  refine lv_iload_n hx hb dX3_stretch_9 rfl (lv_at hl 1 rfl) ?_
  refine va_lald hx hb hK hP 2 1 rfl rfl h_t dX3_stretch_10 ?_
  refine lv_aload_n hx hb dX3_stretch_11 rfl (lv_at hl 0 rfl) ?_
  refine va_get (D := D) (ci := 2) (C := RX3) (T := TX3) (N := 21) hx hb hts hinX3 hown hK hP 0 rfl rfl 1 (by decide) k13 (fun _ h9 => h9) rfl dX3_stretch_12 ?_
  refine lv_iload_n hx hb dX3_stretch_15 rfl (lv_at hl 2 rfl) ?_
  refine va_lald hx hb hK hP 2 1 rfl rfl h_u dX3_stretch_16 ?_
  refine cl_Pl (c_X3_greater l _ _) ⟨hx, hb, hml, hown, hts⟩ (va_cwS 2 hts gX3_stretch_X3_greater rfl rfl rfl (by decide +kernel) ⟨Nat.le_of_ble_eq_true rfl, Nat.le_of_ble_eq_true rfl⟩) rfl hl.1 rfl (Nat.le_of_ble_eq_true rfl) (Nat.zero_le _) (Nat.zero_le _) dX3_stretch_17 ?_
  refine va_last hx hb hK hP hD hS 2 1 rfl rfl h_t dX3_stretch_20 (fun H locs hP hD hS => ?_)
  have hP : va_P D vwCl (wM K a (pM_L s (vp_updL (gM_L s) t.toNatClampNeg (f_X3_greater ((gM_L s) t.toNatClampNeg) ((gM_L s) u.toNatClampNeg))))) H := hP
  have hD : va_D A (wM K a (pM_L s (vp_updL (gM_L s) t.toNatClampNeg (f_X3_greater ((gM_L s) t.toNatClampNeg) ((gM_L s) u.toNatClampNeg))))) := hD
  refine lv_aload_n hx hb dX3_stretch_21 rfl (lv_at hl 0 rfl) ?_
  refine va_get (D := D) (ci := 2) (C := RX3) (T := TX3) (N := 21) hx hb hts hinX3 hown hK hP 0 rfl rfl 2 (by decide) k17 (fun _ h9 => h9) rfl dX3_stretch_22 ?_
  refine lv_iload_n hx hb dX3_stretch_25 rfl (lv_at hl 1 rfl) ?_
  refine lv_aload_n hx hb dX3_stretch_26 rfl (lv_at hl 0 rfl) ?_
  refine va_get (D := D) (ci := 2) (C := RX3) (T := TX3) (N := 21) hx hb hts hinX3 hown hK hP 0 rfl rfl 2 (by decide) k17 (fun _ h9 => h9) rfl dX3_stretch_27 ?_
  refine lv_iload_n hx hb dX3_stretch_30 rfl (lv_at hl 1 rfl) ?_
  refine va_iald hx hb hK hP 3 0 rfl rfl h_t dX3_stretch_31 ?_
  refine lv_aload_n hx hb dX3_stretch_32 rfl (lv_at hl 0 rfl) ?_
  refine va_get (D := D) (ci := 2) (C := RX3) (T := TX3) (N := 21) hx hb hts hinX3 hown hK hP 0 rfl rfl 2 (by decide) k17 (fun _ h9 => h9) rfl dX3_stretch_33 ?_
  refine lv_iload_n hx hb dX3_stretch_36 rfl (lv_at hl 2 rfl) ?_
  refine va_iald hx hb hK hP 3 0 rfl rfl h_u dX3_stretch_37 ?_
  refine cl_Pi (c_X3_greater4 l _ _) ⟨hx, hb, hml, hown, hts⟩ (va_cwS 2 hts gX3_stretch_X3_greater4 rfl rfl rfl (by decide +kernel) ⟨Nat.le_of_ble_eq_true rfl, Nat.le_of_ble_eq_true rfl⟩) rfl hl.1 rfl (Nat.le_of_ble_eq_true rfl) (Nat.zero_le _) (Nat.zero_le _) dX3_stretch_38 ?_
  refine va_iast hx hb hK hP hD hS 3 0 rfl rfl h_t dX3_stretch_41 (fun H locs hP hD hS => ?_)
  have hP : va_P D vwCl (wM K a (pM_P (pM_L s (vp_updL (gM_L s) t.toNatClampNeg (f_X3_greater ((gM_L s) t.toNatClampNeg) ((gM_L s) u.toNatClampNeg)))) (upd (gM_P s) t.toNatClampNeg (f_X3_greater4 ((gM_P s) t.toNatClampNeg) ((gM_P s) u.toNatClampNeg))))) H := hP
  have hD : va_D A (wM K a (pM_P (pM_L s (vp_updL (gM_L s) t.toNatClampNeg (f_X3_greater ((gM_L s) t.toNatClampNeg) ((gM_L s) u.toNatClampNeg)))) (upd (gM_P s) t.toNatClampNeg (f_X3_greater4 ((gM_P s) t.toNatClampNeg) ((gM_P s) u.toNatClampNeg))))) := hD
  refine lv_aload_n hx hb dX3_stretch_42 rfl (lv_at hl 0 rfl) ?_
  refine va_get (D := D) (ci := 2) (C := RX3) (T := TX3) (N := 21) hx hb hts hinX3 hown hK hP 0 rfl rfl 3 (by decide) k21 (fun _ h9 => h9) rfl dX3_stretch_43 ?_
  refine lv_iload_n hx hb dX3_stretch_46 rfl (lv_at hl 1 rfl) ?_
  refine lv_aload_n hx hb dX3_stretch_47 rfl (lv_at hl 0 rfl) ?_
  refine va_get (D := D) (ci := 2) (C := RX3) (T := TX3) (N := 21) hx hb hts hinX3 hown hK hP 0 rfl rfl 3 (by decide) k21 (fun _ h9 => h9) rfl dX3_stretch_48 ?_
  refine lv_iload_n hx hb dX3_stretch_51 rfl (lv_at hl 2 rfl) ?_
  refine va_iald hx hb hK hP 4 0 rfl rfl h_u dX3_stretch_52 ?_
  refine lv_aload_n hx hb dX3_stretch_53 rfl (lv_at hl 0 rfl) ?_
  refine va_get (D := D) (ci := 2) (C := RX3) (T := TX3) (N := 21) hx hb hts hinX3 hown hK hP 0 rfl rfl 3 (by decide) k21 (fun _ h9 => h9) rfl dX3_stretch_54 ?_
  refine lv_iload_n hx hb dX3_stretch_57 rfl (lv_at hl 1 rfl) ?_
  refine va_iald hx hb hK hP 4 0 rfl rfl h_t dX3_stretch_58 ?_
  refine lv_icmp_le (tgt := 71) hx hb dX3_stretch_59 (by decide) (fun c_59 => ?_) (fun c_59 => ?_)
  · refine lv_aload_n hx hb dX3_stretch_71 rfl (lv_at hl 0 rfl) ?_
    refine va_get (D := D) (ci := 2) (C := RX3) (T := TX3) (N := 21) hx hb hts hinX3 hown hK hP 0 rfl rfl 3 (by decide) k21 (fun _ h9 => h9) rfl dX3_stretch_72 ?_
    refine lv_iload_n hx hb dX3_stretch_75 rfl (lv_at hl 1 rfl) ?_
    refine va_iald hx hb hK hP 4 0 rfl rfl h_t dX3_stretch_76 ?_
    refine va_iast hx hb hK hP hD hS 4 0 rfl rfl h_t dX3_stretch_77 (fun H locs hP hD hS => ?_)
    have hP : va_P D vwCl (wM K a (pM_K (pM_P (pM_L s (vp_updL (gM_L s) t.toNatClampNeg (f_X3_greater ((gM_L s) t.toNatClampNeg) ((gM_L s) u.toNatClampNeg)))) (upd (gM_P s) t.toNatClampNeg (f_X3_greater4 ((gM_P s) t.toNatClampNeg) ((gM_P s) u.toNatClampNeg)))) (upd (gM_K s) t.toNatClampNeg ((gM_K s) t.toNatClampNeg)))) H := hP
    have hD : va_D A (wM K a (pM_K (pM_P (pM_L s (vp_updL (gM_L s) t.toNatClampNeg (f_X3_greater ((gM_L s) t.toNatClampNeg) ((gM_L s) u.toNatClampNeg)))) (upd (gM_P s) t.toNatClampNeg (f_X3_greater4 ((gM_P s) t.toNatClampNeg) ((gM_P s) u.toNatClampNeg)))) (upd (gM_K s) t.toNatClampNeg ((gM_K s) t.toNatClampNeg)))) := hD
    refine lv_aload_n hx hb dX3_stretch_78 rfl (lv_at hl 0 rfl) ?_
    refine va_get (D := D) (ci := 2) (C := RX3) (T := TX3) (N := 21) hx hb hts hinX3 hown hK hP 0 rfl rfl 4 (by decide) k24 (fun _ h9 => h9) rfl dX3_stretch_79 ?_
    refine lv_iload_n hx hb dX3_stretch_82 rfl (lv_at hl 1 rfl) ?_
    refine lv_aload_n hx hb dX3_stretch_83 rfl (lv_at hl 0 rfl) ?_
    refine va_get (D := D) (ci := 2) (C := RX3) (T := TX3) (N := 21) hx hb hts hinX3 hown hK hP 0 rfl rfl 4 (by decide) k24 (fun _ h9 => h9) rfl dX3_stretch_84 ?_
    refine lv_iload_n hx hb dX3_stretch_87 rfl (lv_at hl 2 rfl) ?_
    refine va_lald hx hb hK hP 5 1 rfl rfl h_u dX3_stretch_88 ?_
    refine lv_aload_n hx hb dX3_stretch_89 rfl (lv_at hl 0 rfl) ?_
    refine va_get (D := D) (ci := 2) (C := RX3) (T := TX3) (N := 21) hx hb hts hinX3 hown hK hP 0 rfl rfl 4 (by decide) k24 (fun _ h9 => h9) rfl dX3_stretch_90 ?_
    refine lv_iload_n hx hb dX3_stretch_93 rfl (lv_at hl 1 rfl) ?_
    refine va_lald hx hb hK hP 5 1 rfl rfl h_t dX3_stretch_94 ?_
    refine W.lcmp hx hb dX3_stretch_95 ?_
    refine lv_if_le (tgt := 108) hx hb dX3_stretch_96 (by decide) (fun c_96 => ?_) (fun c_96 => ?_)
    · have c_96 := (lg_cmp_le _ _).mp c_96
      refine lv_aload_n hx hb dX3_stretch_108 rfl (lv_at hl 0 rfl) ?_
      refine va_get (D := D) (ci := 2) (C := RX3) (T := TX3) (N := 21) hx hb hts hinX3 hown hK hP 0 rfl rfl 4 (by decide) k24 (fun _ h9 => h9) rfl dX3_stretch_109 ?_
      refine lv_iload_n hx hb dX3_stretch_112 rfl (lv_at hl 1 rfl) ?_
      refine va_lald hx hb hK hP 5 1 rfl rfl h_t dX3_stretch_113 ?_
      refine va_last hx hb hK hP hD hS 5 1 rfl rfl h_t dX3_stretch_114 (fun H locs hP hD hS => ?_)
      have hP : va_P D vwCl (wM K a (pM_T (pM_K (pM_P (pM_L s (vp_updL (gM_L s) t.toNatClampNeg (f_X3_greater ((gM_L s) t.toNatClampNeg) ((gM_L s) u.toNatClampNeg)))) (upd (gM_P s) t.toNatClampNeg (f_X3_greater4 ((gM_P s) t.toNatClampNeg) ((gM_P s) u.toNatClampNeg)))) (upd (gM_K s) t.toNatClampNeg ((gM_K s) t.toNatClampNeg))) (vp_updL (gM_T s) t.toNatClampNeg ((gM_T s) t.toNatClampNeg)))) H := hP
      have hD : va_D A (wM K a (pM_T (pM_K (pM_P (pM_L s (vp_updL (gM_L s) t.toNatClampNeg (f_X3_greater ((gM_L s) t.toNatClampNeg) ((gM_L s) u.toNatClampNeg)))) (upd (gM_P s) t.toNatClampNeg (f_X3_greater4 ((gM_P s) t.toNatClampNeg) ((gM_P s) u.toNatClampNeg)))) (upd (gM_K s) t.toNatClampNeg ((gM_K s) t.toNatClampNeg))) (vp_updL (gM_T s) t.toNatClampNeg ((gM_T s) t.toNatClampNeg)))) := hD
      exact rt_V (s1 := _) hx hb hr hlk hK hP hD hS (Eq.symm (Eq.trans (if_pos c_59) (Eq.trans (if_pos c_96) (rfl)))) dX3_stretch_115
    · have c_96 := mt (lg_cmp_le _ _).mpr c_96
      refine lv_aload_n hx hb dX3_stretch_99 rfl (lv_at hl 0 rfl) ?_
      refine va_get (D := D) (ci := 2) (C := RX3) (T := TX3) (N := 21) hx hb hts hinX3 hown hK hP 0 rfl rfl 4 (by decide) k24 (fun _ h9 => h9) rfl dX3_stretch_100 ?_
      refine lv_iload_n hx hb dX3_stretch_103 rfl (lv_at hl 2 rfl) ?_
      refine va_lald hx hb hK hP 5 1 rfl rfl h_u dX3_stretch_104 ?_
      refine lv_goto (tgt := 114) hx hb dX3_stretch_105 (by decide) ?_
      refine va_last hx hb hK hP hD hS 5 1 rfl rfl h_t dX3_stretch_114 (fun H locs hP hD hS => ?_)
      have hP : va_P D vwCl (wM K a (pM_T (pM_K (pM_P (pM_L s (vp_updL (gM_L s) t.toNatClampNeg (f_X3_greater ((gM_L s) t.toNatClampNeg) ((gM_L s) u.toNatClampNeg)))) (upd (gM_P s) t.toNatClampNeg (f_X3_greater4 ((gM_P s) t.toNatClampNeg) ((gM_P s) u.toNatClampNeg)))) (upd (gM_K s) t.toNatClampNeg ((gM_K s) t.toNatClampNeg))) (vp_updL (gM_T s) t.toNatClampNeg ((gM_T s) u.toNatClampNeg)))) H := hP
      have hD : va_D A (wM K a (pM_T (pM_K (pM_P (pM_L s (vp_updL (gM_L s) t.toNatClampNeg (f_X3_greater ((gM_L s) t.toNatClampNeg) ((gM_L s) u.toNatClampNeg)))) (upd (gM_P s) t.toNatClampNeg (f_X3_greater4 ((gM_P s) t.toNatClampNeg) ((gM_P s) u.toNatClampNeg)))) (upd (gM_K s) t.toNatClampNeg ((gM_K s) t.toNatClampNeg))) (vp_updL (gM_T s) t.toNatClampNeg ((gM_T s) u.toNatClampNeg)))) := hD
      exact rt_V (s1 := _) hx hb hr hlk hK hP hD hS (Eq.symm (Eq.trans (if_pos c_59) (Eq.trans (if_neg c_96) (rfl)))) dX3_stretch_115
  · refine lv_aload_n hx hb dX3_stretch_62 rfl (lv_at hl 0 rfl) ?_
    refine va_get (D := D) (ci := 2) (C := RX3) (T := TX3) (N := 21) hx hb hts hinX3 hown hK hP 0 rfl rfl 3 (by decide) k21 (fun _ h9 => h9) rfl dX3_stretch_63 ?_
    refine lv_iload_n hx hb dX3_stretch_66 rfl (lv_at hl 2 rfl) ?_
    refine va_iald hx hb hK hP 4 0 rfl rfl h_u dX3_stretch_67 ?_
    refine lv_goto (tgt := 77) hx hb dX3_stretch_68 (by decide) ?_
    refine va_iast hx hb hK hP hD hS 4 0 rfl rfl h_t dX3_stretch_77 (fun H locs hP hD hS => ?_)
    have hP : va_P D vwCl (wM K a (pM_K (pM_P (pM_L s (vp_updL (gM_L s) t.toNatClampNeg (f_X3_greater ((gM_L s) t.toNatClampNeg) ((gM_L s) u.toNatClampNeg)))) (upd (gM_P s) t.toNatClampNeg (f_X3_greater4 ((gM_P s) t.toNatClampNeg) ((gM_P s) u.toNatClampNeg)))) (upd (gM_K s) t.toNatClampNeg ((gM_K s) u.toNatClampNeg)))) H := hP
    have hD : va_D A (wM K a (pM_K (pM_P (pM_L s (vp_updL (gM_L s) t.toNatClampNeg (f_X3_greater ((gM_L s) t.toNatClampNeg) ((gM_L s) u.toNatClampNeg)))) (upd (gM_P s) t.toNatClampNeg (f_X3_greater4 ((gM_P s) t.toNatClampNeg) ((gM_P s) u.toNatClampNeg)))) (upd (gM_K s) t.toNatClampNeg ((gM_K s) u.toNatClampNeg)))) := hD
    refine lv_aload_n hx hb dX3_stretch_78 rfl (lv_at hl 0 rfl) ?_
    refine va_get (D := D) (ci := 2) (C := RX3) (T := TX3) (N := 21) hx hb hts hinX3 hown hK hP 0 rfl rfl 4 (by decide) k24 (fun _ h9 => h9) rfl dX3_stretch_79 ?_
    refine lv_iload_n hx hb dX3_stretch_82 rfl (lv_at hl 1 rfl) ?_
    refine lv_aload_n hx hb dX3_stretch_83 rfl (lv_at hl 0 rfl) ?_
    refine va_get (D := D) (ci := 2) (C := RX3) (T := TX3) (N := 21) hx hb hts hinX3 hown hK hP 0 rfl rfl 4 (by decide) k24 (fun _ h9 => h9) rfl dX3_stretch_84 ?_
    refine lv_iload_n hx hb dX3_stretch_87 rfl (lv_at hl 2 rfl) ?_
    refine va_lald hx hb hK hP 5 1 rfl rfl h_u dX3_stretch_88 ?_
    refine lv_aload_n hx hb dX3_stretch_89 rfl (lv_at hl 0 rfl) ?_
    refine va_get (D := D) (ci := 2) (C := RX3) (T := TX3) (N := 21) hx hb hts hinX3 hown hK hP 0 rfl rfl 4 (by decide) k24 (fun _ h9 => h9) rfl dX3_stretch_90 ?_
    refine lv_iload_n hx hb dX3_stretch_93 rfl (lv_at hl 1 rfl) ?_
    refine va_lald hx hb hK hP 5 1 rfl rfl h_t dX3_stretch_94 ?_
    refine W.lcmp hx hb dX3_stretch_95 ?_
    refine lv_if_le (tgt := 108) hx hb dX3_stretch_96 (by decide) (fun c_96 => ?_) (fun c_96 => ?_)
    · have c_96 := (lg_cmp_le _ _).mp c_96
      refine lv_aload_n hx hb dX3_stretch_108 rfl (lv_at hl 0 rfl) ?_
      refine va_get (D := D) (ci := 2) (C := RX3) (T := TX3) (N := 21) hx hb hts hinX3 hown hK hP 0 rfl rfl 4 (by decide) k24 (fun _ h9 => h9) rfl dX3_stretch_109 ?_
      refine lv_iload_n hx hb dX3_stretch_112 rfl (lv_at hl 1 rfl) ?_
      refine va_lald hx hb hK hP 5 1 rfl rfl h_t dX3_stretch_113 ?_
      refine va_last hx hb hK hP hD hS 5 1 rfl rfl h_t dX3_stretch_114 (fun H locs hP hD hS => ?_)
      have hP : va_P D vwCl (wM K a (pM_T (pM_K (pM_P (pM_L s (vp_updL (gM_L s) t.toNatClampNeg (f_X3_greater ((gM_L s) t.toNatClampNeg) ((gM_L s) u.toNatClampNeg)))) (upd (gM_P s) t.toNatClampNeg (f_X3_greater4 ((gM_P s) t.toNatClampNeg) ((gM_P s) u.toNatClampNeg)))) (upd (gM_K s) t.toNatClampNeg ((gM_K s) u.toNatClampNeg))) (vp_updL (gM_T s) t.toNatClampNeg ((gM_T s) t.toNatClampNeg)))) H := hP
      have hD : va_D A (wM K a (pM_T (pM_K (pM_P (pM_L s (vp_updL (gM_L s) t.toNatClampNeg (f_X3_greater ((gM_L s) t.toNatClampNeg) ((gM_L s) u.toNatClampNeg)))) (upd (gM_P s) t.toNatClampNeg (f_X3_greater4 ((gM_P s) t.toNatClampNeg) ((gM_P s) u.toNatClampNeg)))) (upd (gM_K s) t.toNatClampNeg ((gM_K s) u.toNatClampNeg))) (vp_updL (gM_T s) t.toNatClampNeg ((gM_T s) t.toNatClampNeg)))) := hD
      exact rt_V (s1 := _) hx hb hr hlk hK hP hD hS (Eq.symm (Eq.trans (if_neg c_59) (Eq.trans (if_pos c_96) (rfl)))) dX3_stretch_115
    · have c_96 := mt (lg_cmp_le _ _).mpr c_96
      refine lv_aload_n hx hb dX3_stretch_99 rfl (lv_at hl 0 rfl) ?_
      refine va_get (D := D) (ci := 2) (C := RX3) (T := TX3) (N := 21) hx hb hts hinX3 hown hK hP 0 rfl rfl 4 (by decide) k24 (fun _ h9 => h9) rfl dX3_stretch_100 ?_
      refine lv_iload_n hx hb dX3_stretch_103 rfl (lv_at hl 2 rfl) ?_
      refine va_lald hx hb hK hP 5 1 rfl rfl h_u dX3_stretch_104 ?_
      refine lv_goto (tgt := 114) hx hb dX3_stretch_105 (by decide) ?_
      refine va_last hx hb hK hP hD hS 5 1 rfl rfl h_t dX3_stretch_114 (fun H locs hP hD hS => ?_)
      have hP : va_P D vwCl (wM K a (pM_T (pM_K (pM_P (pM_L s (vp_updL (gM_L s) t.toNatClampNeg (f_X3_greater ((gM_L s) t.toNatClampNeg) ((gM_L s) u.toNatClampNeg)))) (upd (gM_P s) t.toNatClampNeg (f_X3_greater4 ((gM_P s) t.toNatClampNeg) ((gM_P s) u.toNatClampNeg)))) (upd (gM_K s) t.toNatClampNeg ((gM_K s) u.toNatClampNeg))) (vp_updL (gM_T s) t.toNatClampNeg ((gM_T s) u.toNatClampNeg)))) H := hP
      have hD : va_D A (wM K a (pM_T (pM_K (pM_P (pM_L s (vp_updL (gM_L s) t.toNatClampNeg (f_X3_greater ((gM_L s) t.toNatClampNeg) ((gM_L s) u.toNatClampNeg)))) (upd (gM_P s) t.toNatClampNeg (f_X3_greater4 ((gM_P s) t.toNatClampNeg) ((gM_P s) u.toNatClampNeg)))) (upd (gM_K s) t.toNatClampNeg ((gM_K s) u.toNatClampNeg))) (vp_updL (gM_T s) t.toNatClampNeg ((gM_T s) u.toNatClampNeg)))) := hD
      exact rt_V (s1 := _) hx hb hr hlk hK hP hD hS (Eq.symm (Eq.trans (if_neg c_59) (Eq.trans (if_neg c_96) (rfl)))) dX3_stretch_115

def f_X3_ease (s : SM) (t : Int32) (u : Int32) : SM := if ((gM_K s) t.toNatClampNeg) ≤ ((gM_K s) u.toNatClampNeg) then (if ((gM_T s) t.toNatClampNeg) ≤ ((gM_T s) u.toNatClampNeg) then (pM_T (pM_K (pM_P (pM_L s (vp_updL (gM_L s) t.toNatClampNeg (f_X3_lesser ((gM_L s) t.toNatClampNeg) ((gM_L s) u.toNatClampNeg)))) (upd (gM_P s) t.toNatClampNeg (f_X3_lesser4 ((gM_P s) t.toNatClampNeg) ((gM_P s) u.toNatClampNeg)))) (upd (gM_K s) t.toNatClampNeg ((gM_K s) t.toNatClampNeg))) (vp_updL (gM_T s) t.toNatClampNeg ((gM_T s) t.toNatClampNeg))) else (pM_T (pM_K (pM_P (pM_L s (vp_updL (gM_L s) t.toNatClampNeg (f_X3_lesser ((gM_L s) t.toNatClampNeg) ((gM_L s) u.toNatClampNeg)))) (upd (gM_P s) t.toNatClampNeg (f_X3_lesser4 ((gM_P s) t.toNatClampNeg) ((gM_P s) u.toNatClampNeg)))) (upd (gM_K s) t.toNatClampNeg ((gM_K s) t.toNatClampNeg))) (vp_updL (gM_T s) t.toNatClampNeg ((gM_T s) u.toNatClampNeg)))) else (if ((gM_T s) t.toNatClampNeg) ≤ ((gM_T s) u.toNatClampNeg) then (pM_T (pM_K (pM_P (pM_L s (vp_updL (gM_L s) t.toNatClampNeg (f_X3_lesser ((gM_L s) t.toNatClampNeg) ((gM_L s) u.toNatClampNeg)))) (upd (gM_P s) t.toNatClampNeg (f_X3_lesser4 ((gM_P s) t.toNatClampNeg) ((gM_P s) u.toNatClampNeg)))) (upd (gM_K s) t.toNatClampNeg ((gM_K s) u.toNatClampNeg))) (vp_updL (gM_T s) t.toNatClampNeg ((gM_T s) t.toNatClampNeg))) else (pM_T (pM_K (pM_P (pM_L s (vp_updL (gM_L s) t.toNatClampNeg (f_X3_lesser ((gM_L s) t.toNatClampNeg) ((gM_L s) u.toNatClampNeg)))) (upd (gM_P s) t.toNatClampNeg (f_X3_lesser4 ((gM_P s) t.toNatClampNeg) ((gM_P s) u.toNatClampNeg)))) (upd (gM_K s) t.toNatClampNeg ((gM_K s) u.toNatClampNeg))) (vp_updL (gM_T s) t.toNatClampNeg ((gM_T s) u.toNatClampNeg))))
set_option maxHeartbeats 4000000 in
set_option maxRecDepth 100000 in
theorem c_X3_ease (l : Launch) (D : va_G) (K : ClassId × ClassId × ClassId) (a : Nat → Nat) (s : SM) (t : Int32) (u : Int32) (h_t : vp_in t 8) (h_u : vp_in u 8)  : MetV l yX3_ease wsX3_ease { frames := 2, cells := 0, slots := 0, locals := 44 } D vwCl (tyK K) (wM K a) [.ref (a 0), .int t, .int u] s (f_X3_ease s t u) := by
  intro sz0
  refine en_W (cc := cX3_ease) (maxL := 3) (ret := none) (Qc := fun A => va_Qv (fun u0 : SM => u0 = f_X3_ease s t u) (bs_a D vwCl (tyK K) (wM K a) A) A) (by decide) rfl (Nat.le_of_ble_eq_true rfl) ?_ sz0
  intro p e st m below meth c ls A hx hb hr hml hts hown hlk hA hK hP hD hS hl
  have hown : st.vm.findClass RX3 = some m.cls := hown
  have hl : lv_has ls 3 [(0, .ref (a 0)), (1, .int t), (2, .int u)] := hl
  have hinX3 : ∀ w ∈ u_ws RX3 TX3 21, w ∈ wsX3_ease := fun w h => List.mem_cons_of_mem _ (List.mem_append_right _ h)
  have k13 := hts (.fieldLink RX3 13 "PuppetBarModel" "length" "[J") (by decide +kernel)
  have k17 := hts (.fieldLink RX3 17 "PuppetBarModel" "pull" "[I") (by decide +kernel)
  have k21 := hts (.fieldLink RX3 21 "PuppetBarModel" "knots" "[I") (by decide +kernel)
  have k24 := hts (.fieldLink RX3 24 "PuppetBarModel" "twist" "[J") (by decide +kernel)
  refine lv_aload_n hx hb dX3_ease_0 rfl (lv_at hl 0 rfl) ?_
  refine va_get (D := D) (ci := 2) (C := RX3) (T := TX3) (N := 21) hx hb hts hinX3 hown hK hP 0 rfl rfl 1 (by decide) k13 (fun _ h9 => h9) rfl dX3_ease_1 ?_
  refine lv_iload_n hx hb dX3_ease_4 rfl (lv_at hl 1 rfl) ?_
  refine lv_aload_n hx hb dX3_ease_5 rfl (lv_at hl 0 rfl) ?_
  refine va_get (D := D) (ci := 2) (C := RX3) (T := TX3) (N := 21) hx hb hts hinX3 hown hK hP 0 rfl rfl 1 (by decide) k13 (fun _ h9 => h9) rfl dX3_ease_6 ?_
  refine lv_iload_n hx hb dX3_ease_9 rfl (lv_at hl 1 rfl) ?_
  refine va_lald hx hb hK hP 2 1 rfl rfl h_t dX3_ease_10 ?_
  refine lv_aload_n hx hb dX3_ease_11 rfl (lv_at hl 0 rfl) ?_
  refine va_get (D := D) (ci := 2) (C := RX3) (T := TX3) (N := 21) hx hb hts hinX3 hown hK hP 0 rfl rfl 1 (by decide) k13 (fun _ h9 => h9) rfl dX3_ease_12 ?_
  refine lv_iload_n hx hb dX3_ease_15 rfl (lv_at hl 2 rfl) ?_
  refine va_lald hx hb hK hP 2 1 rfl rfl h_u dX3_ease_16 ?_
  refine cl_Pl (c_X3_lesser l _ _) ⟨hx, hb, hml, hown, hts⟩ (va_cwS 2 hts gX3_ease_X3_lesser rfl rfl rfl (by decide +kernel) ⟨Nat.le_of_ble_eq_true rfl, Nat.le_of_ble_eq_true rfl⟩) rfl hl.1 rfl (Nat.le_of_ble_eq_true rfl) (Nat.zero_le _) (Nat.zero_le _) dX3_ease_17 ?_
  refine va_last hx hb hK hP hD hS 2 1 rfl rfl h_t dX3_ease_20 (fun H locs hP hD hS => ?_)
  have hP : va_P D vwCl (wM K a (pM_L s (vp_updL (gM_L s) t.toNatClampNeg (f_X3_lesser ((gM_L s) t.toNatClampNeg) ((gM_L s) u.toNatClampNeg))))) H := hP
  have hD : va_D A (wM K a (pM_L s (vp_updL (gM_L s) t.toNatClampNeg (f_X3_lesser ((gM_L s) t.toNatClampNeg) ((gM_L s) u.toNatClampNeg))))) := hD
  refine lv_aload_n hx hb dX3_ease_21 rfl (lv_at hl 0 rfl) ?_
  refine va_get (D := D) (ci := 2) (C := RX3) (T := TX3) (N := 21) hx hb hts hinX3 hown hK hP 0 rfl rfl 2 (by decide) k17 (fun _ h9 => h9) rfl dX3_ease_22 ?_
  refine lv_iload_n hx hb dX3_ease_25 rfl (lv_at hl 1 rfl) ?_
  refine lv_aload_n hx hb dX3_ease_26 rfl (lv_at hl 0 rfl) ?_
  refine va_get (D := D) (ci := 2) (C := RX3) (T := TX3) (N := 21) hx hb hts hinX3 hown hK hP 0 rfl rfl 2 (by decide) k17 (fun _ h9 => h9) rfl dX3_ease_27 ?_
  refine lv_iload_n hx hb dX3_ease_30 rfl (lv_at hl 1 rfl) ?_
  refine va_iald hx hb hK hP 3 0 rfl rfl h_t dX3_ease_31 ?_
  refine lv_aload_n hx hb dX3_ease_32 rfl (lv_at hl 0 rfl) ?_
  refine va_get (D := D) (ci := 2) (C := RX3) (T := TX3) (N := 21) hx hb hts hinX3 hown hK hP 0 rfl rfl 2 (by decide) k17 (fun _ h9 => h9) rfl dX3_ease_33 ?_
  refine lv_iload_n hx hb dX3_ease_36 rfl (lv_at hl 2 rfl) ?_
  refine va_iald hx hb hK hP 3 0 rfl rfl h_u dX3_ease_37 ?_
  refine cl_Pi (c_X3_lesser4 l _ _) ⟨hx, hb, hml, hown, hts⟩ (va_cwS 2 hts gX3_ease_X3_lesser4 rfl rfl rfl (by decide +kernel) ⟨Nat.le_of_ble_eq_true rfl, Nat.le_of_ble_eq_true rfl⟩) rfl hl.1 rfl (Nat.le_of_ble_eq_true rfl) (Nat.zero_le _) (Nat.zero_le _) dX3_ease_38 ?_
  refine va_iast hx hb hK hP hD hS 3 0 rfl rfl h_t dX3_ease_41 (fun H locs hP hD hS => ?_)
  have hP : va_P D vwCl (wM K a (pM_P (pM_L s (vp_updL (gM_L s) t.toNatClampNeg (f_X3_lesser ((gM_L s) t.toNatClampNeg) ((gM_L s) u.toNatClampNeg)))) (upd (gM_P s) t.toNatClampNeg (f_X3_lesser4 ((gM_P s) t.toNatClampNeg) ((gM_P s) u.toNatClampNeg))))) H := hP
  have hD : va_D A (wM K a (pM_P (pM_L s (vp_updL (gM_L s) t.toNatClampNeg (f_X3_lesser ((gM_L s) t.toNatClampNeg) ((gM_L s) u.toNatClampNeg)))) (upd (gM_P s) t.toNatClampNeg (f_X3_lesser4 ((gM_P s) t.toNatClampNeg) ((gM_P s) u.toNatClampNeg))))) := hD
  refine lv_aload_n hx hb dX3_ease_42 rfl (lv_at hl 0 rfl) ?_
  refine va_get (D := D) (ci := 2) (C := RX3) (T := TX3) (N := 21) hx hb hts hinX3 hown hK hP 0 rfl rfl 3 (by decide) k21 (fun _ h9 => h9) rfl dX3_ease_43 ?_
  refine lv_iload_n hx hb dX3_ease_46 rfl (lv_at hl 1 rfl) ?_
  refine lv_aload_n hx hb dX3_ease_47 rfl (lv_at hl 0 rfl) ?_
  refine va_get (D := D) (ci := 2) (C := RX3) (T := TX3) (N := 21) hx hb hts hinX3 hown hK hP 0 rfl rfl 3 (by decide) k21 (fun _ h9 => h9) rfl dX3_ease_48 ?_
  refine lv_iload_n hx hb dX3_ease_51 rfl (lv_at hl 2 rfl) ?_
  refine va_iald hx hb hK hP 4 0 rfl rfl h_u dX3_ease_52 ?_
  refine lv_aload_n hx hb dX3_ease_53 rfl (lv_at hl 0 rfl) ?_
  refine va_get (D := D) (ci := 2) (C := RX3) (T := TX3) (N := 21) hx hb hts hinX3 hown hK hP 0 rfl rfl 3 (by decide) k21 (fun _ h9 => h9) rfl dX3_ease_54 ?_
  refine lv_iload_n hx hb dX3_ease_57 rfl (lv_at hl 1 rfl) ?_
  refine va_iald hx hb hK hP 4 0 rfl rfl h_t dX3_ease_58 ?_
  refine lv_icmp_ge (tgt := 71) hx hb dX3_ease_59 (by decide) (fun c_59 => ?_) (fun c_59 => ?_)
  · refine lv_aload_n hx hb dX3_ease_71 rfl (lv_at hl 0 rfl) ?_
    refine va_get (D := D) (ci := 2) (C := RX3) (T := TX3) (N := 21) hx hb hts hinX3 hown hK hP 0 rfl rfl 3 (by decide) k21 (fun _ h9 => h9) rfl dX3_ease_72 ?_
    refine lv_iload_n hx hb dX3_ease_75 rfl (lv_at hl 1 rfl) ?_
    refine va_iald hx hb hK hP 4 0 rfl rfl h_t dX3_ease_76 ?_
    refine va_iast hx hb hK hP hD hS 4 0 rfl rfl h_t dX3_ease_77 (fun H locs hP hD hS => ?_)
    have hP : va_P D vwCl (wM K a (pM_K (pM_P (pM_L s (vp_updL (gM_L s) t.toNatClampNeg (f_X3_lesser ((gM_L s) t.toNatClampNeg) ((gM_L s) u.toNatClampNeg)))) (upd (gM_P s) t.toNatClampNeg (f_X3_lesser4 ((gM_P s) t.toNatClampNeg) ((gM_P s) u.toNatClampNeg)))) (upd (gM_K s) t.toNatClampNeg ((gM_K s) t.toNatClampNeg)))) H := hP
    have hD : va_D A (wM K a (pM_K (pM_P (pM_L s (vp_updL (gM_L s) t.toNatClampNeg (f_X3_lesser ((gM_L s) t.toNatClampNeg) ((gM_L s) u.toNatClampNeg)))) (upd (gM_P s) t.toNatClampNeg (f_X3_lesser4 ((gM_P s) t.toNatClampNeg) ((gM_P s) u.toNatClampNeg)))) (upd (gM_K s) t.toNatClampNeg ((gM_K s) t.toNatClampNeg)))) := hD
    refine lv_aload_n hx hb dX3_ease_78 rfl (lv_at hl 0 rfl) ?_
    refine va_get (D := D) (ci := 2) (C := RX3) (T := TX3) (N := 21) hx hb hts hinX3 hown hK hP 0 rfl rfl 4 (by decide) k24 (fun _ h9 => h9) rfl dX3_ease_79 ?_
    refine lv_iload_n hx hb dX3_ease_82 rfl (lv_at hl 1 rfl) ?_
    refine lv_aload_n hx hb dX3_ease_83 rfl (lv_at hl 0 rfl) ?_
    refine va_get (D := D) (ci := 2) (C := RX3) (T := TX3) (N := 21) hx hb hts hinX3 hown hK hP 0 rfl rfl 4 (by decide) k24 (fun _ h9 => h9) rfl dX3_ease_84 ?_
    refine lv_iload_n hx hb dX3_ease_87 rfl (lv_at hl 2 rfl) ?_
    refine va_lald hx hb hK hP 5 1 rfl rfl h_u dX3_ease_88 ?_
    refine lv_aload_n hx hb dX3_ease_89 rfl (lv_at hl 0 rfl) ?_
    refine va_get (D := D) (ci := 2) (C := RX3) (T := TX3) (N := 21) hx hb hts hinX3 hown hK hP 0 rfl rfl 4 (by decide) k24 (fun _ h9 => h9) rfl dX3_ease_90 ?_
    refine lv_iload_n hx hb dX3_ease_93 rfl (lv_at hl 1 rfl) ?_
    refine va_lald hx hb hK hP 5 1 rfl rfl h_t dX3_ease_94 ?_
    refine W.lcmp hx hb dX3_ease_95 ?_
    refine lv_if_ge (tgt := 108) hx hb dX3_ease_96 (by decide) (fun c_96 => ?_) (fun c_96 => ?_)
    · have c_96 := (lg_cmp_ge _ _).mp c_96
      refine lv_aload_n hx hb dX3_ease_108 rfl (lv_at hl 0 rfl) ?_
      refine va_get (D := D) (ci := 2) (C := RX3) (T := TX3) (N := 21) hx hb hts hinX3 hown hK hP 0 rfl rfl 4 (by decide) k24 (fun _ h9 => h9) rfl dX3_ease_109 ?_
      refine lv_iload_n hx hb dX3_ease_112 rfl (lv_at hl 1 rfl) ?_
      refine va_lald hx hb hK hP 5 1 rfl rfl h_t dX3_ease_113 ?_
      refine va_last hx hb hK hP hD hS 5 1 rfl rfl h_t dX3_ease_114 (fun H locs hP hD hS => ?_)
      have hP : va_P D vwCl (wM K a (pM_T (pM_K (pM_P (pM_L s (vp_updL (gM_L s) t.toNatClampNeg (f_X3_lesser ((gM_L s) t.toNatClampNeg) ((gM_L s) u.toNatClampNeg)))) (upd (gM_P s) t.toNatClampNeg (f_X3_lesser4 ((gM_P s) t.toNatClampNeg) ((gM_P s) u.toNatClampNeg)))) (upd (gM_K s) t.toNatClampNeg ((gM_K s) t.toNatClampNeg))) (vp_updL (gM_T s) t.toNatClampNeg ((gM_T s) t.toNatClampNeg)))) H := hP
      have hD : va_D A (wM K a (pM_T (pM_K (pM_P (pM_L s (vp_updL (gM_L s) t.toNatClampNeg (f_X3_lesser ((gM_L s) t.toNatClampNeg) ((gM_L s) u.toNatClampNeg)))) (upd (gM_P s) t.toNatClampNeg (f_X3_lesser4 ((gM_P s) t.toNatClampNeg) ((gM_P s) u.toNatClampNeg)))) (upd (gM_K s) t.toNatClampNeg ((gM_K s) t.toNatClampNeg))) (vp_updL (gM_T s) t.toNatClampNeg ((gM_T s) t.toNatClampNeg)))) := hD
      exact rt_V (s1 := _) hx hb hr hlk hK hP hD hS (Eq.symm (Eq.trans (if_pos c_59) (Eq.trans (if_pos c_96) (rfl)))) dX3_ease_115
    · have c_96 := mt (lg_cmp_ge _ _).mpr c_96
      refine lv_aload_n hx hb dX3_ease_99 rfl (lv_at hl 0 rfl) ?_
      refine va_get (D := D) (ci := 2) (C := RX3) (T := TX3) (N := 21) hx hb hts hinX3 hown hK hP 0 rfl rfl 4 (by decide) k24 (fun _ h9 => h9) rfl dX3_ease_100 ?_
      refine lv_iload_n hx hb dX3_ease_103 rfl (lv_at hl 2 rfl) ?_
      refine va_lald hx hb hK hP 5 1 rfl rfl h_u dX3_ease_104 ?_
      refine lv_goto (tgt := 114) hx hb dX3_ease_105 (by decide) ?_
      refine va_last hx hb hK hP hD hS 5 1 rfl rfl h_t dX3_ease_114 (fun H locs hP hD hS => ?_)
      have hP : va_P D vwCl (wM K a (pM_T (pM_K (pM_P (pM_L s (vp_updL (gM_L s) t.toNatClampNeg (f_X3_lesser ((gM_L s) t.toNatClampNeg) ((gM_L s) u.toNatClampNeg)))) (upd (gM_P s) t.toNatClampNeg (f_X3_lesser4 ((gM_P s) t.toNatClampNeg) ((gM_P s) u.toNatClampNeg)))) (upd (gM_K s) t.toNatClampNeg ((gM_K s) t.toNatClampNeg))) (vp_updL (gM_T s) t.toNatClampNeg ((gM_T s) u.toNatClampNeg)))) H := hP
      have hD : va_D A (wM K a (pM_T (pM_K (pM_P (pM_L s (vp_updL (gM_L s) t.toNatClampNeg (f_X3_lesser ((gM_L s) t.toNatClampNeg) ((gM_L s) u.toNatClampNeg)))) (upd (gM_P s) t.toNatClampNeg (f_X3_lesser4 ((gM_P s) t.toNatClampNeg) ((gM_P s) u.toNatClampNeg)))) (upd (gM_K s) t.toNatClampNeg ((gM_K s) t.toNatClampNeg))) (vp_updL (gM_T s) t.toNatClampNeg ((gM_T s) u.toNatClampNeg)))) := hD
      exact rt_V (s1 := _) hx hb hr hlk hK hP hD hS (Eq.symm (Eq.trans (if_pos c_59) (Eq.trans (if_neg c_96) (rfl)))) dX3_ease_115
  · refine lv_aload_n hx hb dX3_ease_62 rfl (lv_at hl 0 rfl) ?_
    refine va_get (D := D) (ci := 2) (C := RX3) (T := TX3) (N := 21) hx hb hts hinX3 hown hK hP 0 rfl rfl 3 (by decide) k21 (fun _ h9 => h9) rfl dX3_ease_63 ?_
    refine lv_iload_n hx hb dX3_ease_66 rfl (lv_at hl 2 rfl) ?_
    refine va_iald hx hb hK hP 4 0 rfl rfl h_u dX3_ease_67 ?_
    refine lv_goto (tgt := 77) hx hb dX3_ease_68 (by decide) ?_
    refine va_iast hx hb hK hP hD hS 4 0 rfl rfl h_t dX3_ease_77 (fun H locs hP hD hS => ?_)
    have hP : va_P D vwCl (wM K a (pM_K (pM_P (pM_L s (vp_updL (gM_L s) t.toNatClampNeg (f_X3_lesser ((gM_L s) t.toNatClampNeg) ((gM_L s) u.toNatClampNeg)))) (upd (gM_P s) t.toNatClampNeg (f_X3_lesser4 ((gM_P s) t.toNatClampNeg) ((gM_P s) u.toNatClampNeg)))) (upd (gM_K s) t.toNatClampNeg ((gM_K s) u.toNatClampNeg)))) H := hP
    have hD : va_D A (wM K a (pM_K (pM_P (pM_L s (vp_updL (gM_L s) t.toNatClampNeg (f_X3_lesser ((gM_L s) t.toNatClampNeg) ((gM_L s) u.toNatClampNeg)))) (upd (gM_P s) t.toNatClampNeg (f_X3_lesser4 ((gM_P s) t.toNatClampNeg) ((gM_P s) u.toNatClampNeg)))) (upd (gM_K s) t.toNatClampNeg ((gM_K s) u.toNatClampNeg)))) := hD
    refine lv_aload_n hx hb dX3_ease_78 rfl (lv_at hl 0 rfl) ?_
    refine va_get (D := D) (ci := 2) (C := RX3) (T := TX3) (N := 21) hx hb hts hinX3 hown hK hP 0 rfl rfl 4 (by decide) k24 (fun _ h9 => h9) rfl dX3_ease_79 ?_
    refine lv_iload_n hx hb dX3_ease_82 rfl (lv_at hl 1 rfl) ?_
    refine lv_aload_n hx hb dX3_ease_83 rfl (lv_at hl 0 rfl) ?_
    refine va_get (D := D) (ci := 2) (C := RX3) (T := TX3) (N := 21) hx hb hts hinX3 hown hK hP 0 rfl rfl 4 (by decide) k24 (fun _ h9 => h9) rfl dX3_ease_84 ?_
    refine lv_iload_n hx hb dX3_ease_87 rfl (lv_at hl 2 rfl) ?_
    refine va_lald hx hb hK hP 5 1 rfl rfl h_u dX3_ease_88 ?_
    refine lv_aload_n hx hb dX3_ease_89 rfl (lv_at hl 0 rfl) ?_
    refine va_get (D := D) (ci := 2) (C := RX3) (T := TX3) (N := 21) hx hb hts hinX3 hown hK hP 0 rfl rfl 4 (by decide) k24 (fun _ h9 => h9) rfl dX3_ease_90 ?_
    refine lv_iload_n hx hb dX3_ease_93 rfl (lv_at hl 1 rfl) ?_
    refine va_lald hx hb hK hP 5 1 rfl rfl h_t dX3_ease_94 ?_
    refine W.lcmp hx hb dX3_ease_95 ?_
    refine lv_if_ge (tgt := 108) hx hb dX3_ease_96 (by decide) (fun c_96 => ?_) (fun c_96 => ?_)
    · have c_96 := (lg_cmp_ge _ _).mp c_96
      refine lv_aload_n hx hb dX3_ease_108 rfl (lv_at hl 0 rfl) ?_
      refine va_get (D := D) (ci := 2) (C := RX3) (T := TX3) (N := 21) hx hb hts hinX3 hown hK hP 0 rfl rfl 4 (by decide) k24 (fun _ h9 => h9) rfl dX3_ease_109 ?_
      refine lv_iload_n hx hb dX3_ease_112 rfl (lv_at hl 1 rfl) ?_
      refine va_lald hx hb hK hP 5 1 rfl rfl h_t dX3_ease_113 ?_
      refine va_last hx hb hK hP hD hS 5 1 rfl rfl h_t dX3_ease_114 (fun H locs hP hD hS => ?_)
      have hP : va_P D vwCl (wM K a (pM_T (pM_K (pM_P (pM_L s (vp_updL (gM_L s) t.toNatClampNeg (f_X3_lesser ((gM_L s) t.toNatClampNeg) ((gM_L s) u.toNatClampNeg)))) (upd (gM_P s) t.toNatClampNeg (f_X3_lesser4 ((gM_P s) t.toNatClampNeg) ((gM_P s) u.toNatClampNeg)))) (upd (gM_K s) t.toNatClampNeg ((gM_K s) u.toNatClampNeg))) (vp_updL (gM_T s) t.toNatClampNeg ((gM_T s) t.toNatClampNeg)))) H := hP
      have hD : va_D A (wM K a (pM_T (pM_K (pM_P (pM_L s (vp_updL (gM_L s) t.toNatClampNeg (f_X3_lesser ((gM_L s) t.toNatClampNeg) ((gM_L s) u.toNatClampNeg)))) (upd (gM_P s) t.toNatClampNeg (f_X3_lesser4 ((gM_P s) t.toNatClampNeg) ((gM_P s) u.toNatClampNeg)))) (upd (gM_K s) t.toNatClampNeg ((gM_K s) u.toNatClampNeg))) (vp_updL (gM_T s) t.toNatClampNeg ((gM_T s) t.toNatClampNeg)))) := hD
      exact rt_V (s1 := _) hx hb hr hlk hK hP hD hS (Eq.symm (Eq.trans (if_neg c_59) (Eq.trans (if_pos c_96) (rfl)))) dX3_ease_115
    · have c_96 := mt (lg_cmp_ge _ _).mpr c_96
      refine lv_aload_n hx hb dX3_ease_99 rfl (lv_at hl 0 rfl) ?_
      refine va_get (D := D) (ci := 2) (C := RX3) (T := TX3) (N := 21) hx hb hts hinX3 hown hK hP 0 rfl rfl 4 (by decide) k24 (fun _ h9 => h9) rfl dX3_ease_100 ?_
      refine lv_iload_n hx hb dX3_ease_103 rfl (lv_at hl 2 rfl) ?_
      refine va_lald hx hb hK hP 5 1 rfl rfl h_u dX3_ease_104 ?_
      refine lv_goto (tgt := 114) hx hb dX3_ease_105 (by decide) ?_
      refine va_last hx hb hK hP hD hS 5 1 rfl rfl h_t dX3_ease_114 (fun H locs hP hD hS => ?_)
      have hP : va_P D vwCl (wM K a (pM_T (pM_K (pM_P (pM_L s (vp_updL (gM_L s) t.toNatClampNeg (f_X3_lesser ((gM_L s) t.toNatClampNeg) ((gM_L s) u.toNatClampNeg)))) (upd (gM_P s) t.toNatClampNeg (f_X3_lesser4 ((gM_P s) t.toNatClampNeg) ((gM_P s) u.toNatClampNeg)))) (upd (gM_K s) t.toNatClampNeg ((gM_K s) u.toNatClampNeg))) (vp_updL (gM_T s) t.toNatClampNeg ((gM_T s) u.toNatClampNeg)))) H := hP
      have hD : va_D A (wM K a (pM_T (pM_K (pM_P (pM_L s (vp_updL (gM_L s) t.toNatClampNeg (f_X3_lesser ((gM_L s) t.toNatClampNeg) ((gM_L s) u.toNatClampNeg)))) (upd (gM_P s) t.toNatClampNeg (f_X3_lesser4 ((gM_P s) t.toNatClampNeg) ((gM_P s) u.toNatClampNeg)))) (upd (gM_K s) t.toNatClampNeg ((gM_K s) u.toNatClampNeg))) (vp_updL (gM_T s) t.toNatClampNeg ((gM_T s) u.toNatClampNeg)))) := hD
      exact rt_V (s1 := _) hx hb hr hlk hK hP hD hS (Eq.symm (Eq.trans (if_neg c_59) (Eq.trans (if_neg c_96) (rfl)))) dX3_ease_115

def f_X3_mirror (s : SM) (t : Int32) (u : Int32) : SM := pM_P (pM_L s (vp_updL (gM_L s) t.toNatClampNeg ((f_X3_amount ((gM_L s) t.toNatClampNeg) 52) ||| (((gM_L s) u.toNatClampNeg) &&& (f_X3_sign 52))))) (upd (gM_P s) t.toNatClampNeg ((f_X3_amount4 ((gM_P s) t.toNatClampNeg)) ||| (((gM_P s) u.toNatClampNeg) &&& (-2147483648))))
set_option maxHeartbeats 4000000 in
set_option maxRecDepth 100000 in
theorem c_X3_mirror (l : Launch) (D : va_G) (K : ClassId × ClassId × ClassId) (a : Nat → Nat) (s : SM) (t : Int32) (u : Int32) (h_t : vp_in t 8) (h_u : vp_in u 8)  : MetV l yX3_mirror wsX3_mirror { frames := 2, cells := 0, slots := 0, locals := 42 } D vwCl (tyK K) (wM K a) [.ref (a 0), .int t, .int u] s (f_X3_mirror s t u) := by
  intro sz0
  refine en_W (cc := cX3_mirror) (maxL := 3) (ret := none) (Qc := fun A => va_Qv (fun u0 : SM => u0 = f_X3_mirror s t u) (bs_a D vwCl (tyK K) (wM K a) A) A) (by decide) rfl (Nat.le_of_ble_eq_true rfl) ?_ sz0
  intro p e st m below meth c ls A hx hb hr hml hts hown hlk hA hK hP hD hS hl
  have hown : st.vm.findClass RX3 = some m.cls := hown
  have hl : lv_has ls 3 [(0, .ref (a 0)), (1, .int t), (2, .int u)] := hl
  have hinX3 : ∀ w ∈ u_ws RX3 TX3 21, w ∈ wsX3_mirror := fun w h => List.mem_cons_of_mem _ (List.mem_append_right _ h)
  have k13 := hts (.fieldLink RX3 13 "PuppetBarModel" "length" "[J") (by decide +kernel)
  have k17 := hts (.fieldLink RX3 17 "PuppetBarModel" "pull" "[I") (by decide +kernel)
  have k160 := hts (.constant RX3 160 (-2147483648)) (by decide +kernel)
  refine lv_aload_n hx hb dX3_mirror_0 rfl (lv_at hl 0 rfl) ?_
  refine va_get (D := D) (ci := 2) (C := RX3) (T := TX3) (N := 21) hx hb hts hinX3 hown hK hP 0 rfl rfl 1 (by decide) k13 (fun _ h9 => h9) rfl dX3_mirror_1 ?_
  refine lv_iload_n hx hb dX3_mirror_4 rfl (lv_at hl 1 rfl) ?_
  refine lv_aload_n hx hb dX3_mirror_5 rfl (lv_at hl 0 rfl) ?_
  refine va_get (D := D) (ci := 2) (C := RX3) (T := TX3) (N := 21) hx hb hts hinX3 hown hK hP 0 rfl rfl 1 (by decide) k13 (fun _ h9 => h9) rfl dX3_mirror_6 ?_
  refine lv_iload_n hx hb dX3_mirror_9 rfl (lv_at hl 1 rfl) ?_
  refine va_lald hx hb hK hP 2 1 rfl rfl h_t dX3_mirror_10 ?_
  refine lv_bipush (v := 52) hx hb dX3_mirror_11 (by decide) ?_
  refine cl_Pl (c_X3_amount l _ _) ⟨hx, hb, hml, hown, hts⟩ (va_cwS 2 hts gX3_mirror_X3_amount rfl rfl rfl (by decide +kernel) ⟨Nat.le_of_ble_eq_true rfl, Nat.le_of_ble_eq_true rfl⟩) rfl hl.1 rfl (Nat.le_of_ble_eq_true rfl) (Nat.zero_le _) (Nat.zero_le _) dX3_mirror_13 ?_
  refine lv_aload_n hx hb dX3_mirror_16 rfl (lv_at hl 0 rfl) ?_
  refine va_get (D := D) (ci := 2) (C := RX3) (T := TX3) (N := 21) hx hb hts hinX3 hown hK hP 0 rfl rfl 1 (by decide) k13 (fun _ h9 => h9) rfl dX3_mirror_17 ?_
  refine lv_iload_n hx hb dX3_mirror_20 rfl (lv_at hl 2 rfl) ?_
  refine va_lald hx hb hK hP 2 1 rfl rfl h_u dX3_mirror_21 ?_
  refine lv_bipush (v := 52) hx hb dX3_mirror_22 (by decide) ?_
  refine cl_Pl (c_X3_sign l _) ⟨hx, hb, hml, hown, hts⟩ (va_cwS 1 hts gX3_mirror_X3_sign rfl rfl rfl (by decide +kernel) ⟨Nat.le_of_ble_eq_true rfl, Nat.le_of_ble_eq_true rfl⟩) rfl hl.1 rfl (Nat.le_of_ble_eq_true rfl) (Nat.zero_le _) (Nat.zero_le _) dX3_mirror_24 ?_
  refine lv_land hx hb dX3_mirror_27 ?_
  refine lv_lor hx hb dX3_mirror_28 ?_
  refine va_last hx hb hK hP hD hS 2 1 rfl rfl h_t dX3_mirror_29 (fun H locs hP hD hS => ?_)
  have hP : va_P D vwCl (wM K a (pM_L s (vp_updL (gM_L s) t.toNatClampNeg ((f_X3_amount ((gM_L s) t.toNatClampNeg) 52) ||| (((gM_L s) u.toNatClampNeg) &&& (f_X3_sign 52)))))) H := hP
  have hD : va_D A (wM K a (pM_L s (vp_updL (gM_L s) t.toNatClampNeg ((f_X3_amount ((gM_L s) t.toNatClampNeg) 52) ||| (((gM_L s) u.toNatClampNeg) &&& (f_X3_sign 52)))))) := hD
  refine lv_aload_n hx hb dX3_mirror_30 rfl (lv_at hl 0 rfl) ?_
  refine va_get (D := D) (ci := 2) (C := RX3) (T := TX3) (N := 21) hx hb hts hinX3 hown hK hP 0 rfl rfl 2 (by decide) k17 (fun _ h9 => h9) rfl dX3_mirror_31 ?_
  refine lv_iload_n hx hb dX3_mirror_34 rfl (lv_at hl 1 rfl) ?_
  refine lv_aload_n hx hb dX3_mirror_35 rfl (lv_at hl 0 rfl) ?_
  refine va_get (D := D) (ci := 2) (C := RX3) (T := TX3) (N := 21) hx hb hts hinX3 hown hK hP 0 rfl rfl 2 (by decide) k17 (fun _ h9 => h9) rfl dX3_mirror_36 ?_
  refine lv_iload_n hx hb dX3_mirror_39 rfl (lv_at hl 1 rfl) ?_
  refine va_iald hx hb hK hP 3 0 rfl rfl h_t dX3_mirror_40 ?_
  refine cl_Pi (c_X3_amount4 l _) ⟨hx, hb, hml, hown, hts⟩ (va_cwS 1 hts gX3_mirror_X3_amount4 rfl rfl rfl (by decide +kernel) ⟨Nat.le_of_ble_eq_true rfl, Nat.le_of_ble_eq_true rfl⟩) rfl hl.1 rfl (Nat.le_of_ble_eq_true rfl) (Nat.zero_le _) (Nat.zero_le _) dX3_mirror_41 ?_
  refine lv_aload_n hx hb dX3_mirror_44 rfl (lv_at hl 0 rfl) ?_
  refine va_get (D := D) (ci := 2) (C := RX3) (T := TX3) (N := 21) hx hb hts hinX3 hown hK hP 0 rfl rfl 2 (by decide) k17 (fun _ h9 => h9) rfl dX3_mirror_45 ?_
  refine lv_iload_n hx hb dX3_mirror_48 rfl (lv_at hl 2 rfl) ?_
  refine va_iald hx hb hK hP 3 0 rfl rfl h_u dX3_mirror_49 ?_
  refine lv_ldc hx hb hown k160 dX3_mirror_50 ?_
  refine lv_iand hx hb dX3_mirror_52 ?_
  refine lv_ior hx hb dX3_mirror_53 ?_
  refine va_iast hx hb hK hP hD hS 3 0 rfl rfl h_t dX3_mirror_54 (fun H locs hP hD hS => ?_)
  have hP : va_P D vwCl (wM K a (pM_P (pM_L s (vp_updL (gM_L s) t.toNatClampNeg ((f_X3_amount ((gM_L s) t.toNatClampNeg) 52) ||| (((gM_L s) u.toNatClampNeg) &&& (f_X3_sign 52))))) (upd (gM_P s) t.toNatClampNeg ((f_X3_amount4 ((gM_P s) t.toNatClampNeg)) ||| (((gM_P s) u.toNatClampNeg) &&& (-2147483648)))))) H := hP
  have hD : va_D A (wM K a (pM_P (pM_L s (vp_updL (gM_L s) t.toNatClampNeg ((f_X3_amount ((gM_L s) t.toNatClampNeg) 52) ||| (((gM_L s) u.toNatClampNeg) &&& (f_X3_sign 52))))) (upd (gM_P s) t.toNatClampNeg ((f_X3_amount4 ((gM_P s) t.toNatClampNeg)) ||| (((gM_P s) u.toNatClampNeg) &&& (-2147483648)))))) := hD
  exact rt_V (s1 := _) hx hb hr hlk hK hP hD hS (Eq.symm (rfl)) dX3_mirror_55

def f_X3_stops (s : SM) (t : Int32) (u : Int32) : SM := let x1 := f_X3_lesser ((gM_L s) t.toNatClampNeg) ((gM_L s) u.toNatClampNeg); let x2 := f_X3_greater ((gM_L s) t.toNatClampNeg) ((gM_L s) u.toNatClampNeg); pM_HI (pM_LO s (vp_updL (gM_LO s) t.toNatClampNeg x1)) (vp_updL (gM_HI s) t.toNatClampNeg x2)
set_option maxHeartbeats 4000000 in
set_option maxRecDepth 100000 in
theorem c_X3_stops (l : Launch) (D : va_G) (K : ClassId × ClassId × ClassId) (a : Nat → Nat) (s : SM) (t : Int32) (u : Int32) (h_t : vp_in t 8) (h_u : vp_in u 8)  : MetV l yX3_stops wsX3_stops { frames := 2, cells := 0, slots := 0, locals := 44 } D vwCl (tyK K) (wM K a) [.ref (a 0), .int t, .int u] s (f_X3_stops s t u) := by
  intro sz0
  refine en_W (cc := cX3_stops) (maxL := 7) (ret := none) (Qc := fun A => va_Qv (fun u0 : SM => u0 = f_X3_stops s t u) (bs_a D vwCl (tyK K) (wM K a) A) A) (by decide) rfl (Nat.le_of_ble_eq_true rfl) ?_ sz0
  intro p e st m below meth c ls A hx hb hr hml hts hown hlk hA hK hP hD hS hl
  have hown : st.vm.findClass RX3 = some m.cls := hown
  have hl : lv_has ls 7 [(0, .ref (a 0)), (1, .int t), (2, .int u)] := hl
  have hinX3 : ∀ w ∈ u_ws RX3 TX3 21, w ∈ wsX3_stops := fun w h => List.mem_cons_of_mem _ (List.mem_append_right _ h)
  have k13 := hts (.fieldLink RX3 13 "PuppetBarModel" "length" "[J") (by decide +kernel)
  have k27 := hts (.fieldLink RX3 27 "PuppetBarModel" "low" "[J") (by decide +kernel)
  have k30 := hts (.fieldLink RX3 30 "PuppetBarModel" "high" "[J") (by decide +kernel)
  refine lv_aload_n hx hb dX3_stops_0 rfl (lv_at hl 0 rfl) ?_
  refine va_get (D := D) (ci := 2) (C := RX3) (T := TX3) (N := 21) hx hb hts hinX3 hown hK hP 0 rfl rfl 1 (by decide) k13 (fun _ h9 => h9) rfl dX3_stops_1 ?_
  refine lv_iload_n hx hb dX3_stops_4 rfl (lv_at hl 1 rfl) ?_
  refine va_lald hx hb hK hP 2 1 rfl rfl h_t dX3_stops_5 ?_
  refine lv_aload_n hx hb dX3_stops_6 rfl (lv_at hl 0 rfl) ?_
  refine va_get (D := D) (ci := 2) (C := RX3) (T := TX3) (N := 21) hx hb hts hinX3 hown hK hP 0 rfl rfl 1 (by decide) k13 (fun _ h9 => h9) rfl dX3_stops_7 ?_
  refine lv_iload_n hx hb dX3_stops_10 rfl (lv_at hl 2 rfl) ?_
  refine va_lald hx hb hK hP 2 1 rfl rfl h_u dX3_stops_11 ?_
  refine cl_Pl (c_X3_lesser l _ _) ⟨hx, hb, hml, hown, hts⟩ (va_cwS 2 hts gX3_stops_X3_lesser rfl rfl rfl (by decide +kernel) ⟨Nat.le_of_ble_eq_true rfl, Nat.le_of_ble_eq_true rfl⟩) rfl hl.1 rfl (Nat.le_of_ble_eq_true rfl) (Nat.zero_le _) (Nat.zero_le _) dX3_stops_12 ?_
  refine tpl (fun x1 ex1 => ?_)
  refine lv_lstore_n (lv' := [(3, .long x1), (0, .ref (a 0)), (1, .int t), (2, .int u)]) hx hb dX3_stops_15 rfl hl (by decide) rfl (fun ls hl => ?_)
  refine lv_aload_n hx hb dX3_stops_16 rfl (lv_at hl 1 rfl) ?_
  refine va_get (D := D) (ci := 2) (C := RX3) (T := TX3) (N := 21) hx hb hts hinX3 hown hK hP 0 rfl rfl 1 (by decide) k13 (fun _ h9 => h9) rfl dX3_stops_17 ?_
  refine lv_iload_n hx hb dX3_stops_20 rfl (lv_at hl 2 rfl) ?_
  refine va_lald hx hb hK hP 2 1 rfl rfl h_t dX3_stops_21 ?_
  refine lv_aload_n hx hb dX3_stops_22 rfl (lv_at hl 1 rfl) ?_
  refine va_get (D := D) (ci := 2) (C := RX3) (T := TX3) (N := 21) hx hb hts hinX3 hown hK hP 0 rfl rfl 1 (by decide) k13 (fun _ h9 => h9) rfl dX3_stops_23 ?_
  refine lv_iload_n hx hb dX3_stops_26 rfl (lv_at hl 3 rfl) ?_
  refine va_lald hx hb hK hP 2 1 rfl rfl h_u dX3_stops_27 ?_
  refine cl_Pl (c_X3_greater l _ _) ⟨hx, hb, hml, hown, hts⟩ (va_cwS 2 hts gX3_stops_X3_greater rfl rfl rfl (by decide +kernel) ⟨Nat.le_of_ble_eq_true rfl, Nat.le_of_ble_eq_true rfl⟩) rfl hl.1 rfl (Nat.le_of_ble_eq_true rfl) (Nat.zero_le _) (Nat.zero_le _) dX3_stops_28 ?_
  refine tpl (fun x2 ex2 => ?_)
  refine lv_lstore (lv' := [(5, .long x2), (3, .long x1), (0, .ref (a 0)), (1, .int t), (2, .int u)]) hx hb dX3_stops_31 hl (by decide) rfl (fun ls hl => ?_)
  refine lv_aload_n hx hb dX3_stops_33 rfl (lv_at hl 2 rfl) ?_
  refine va_get (D := D) (ci := 2) (C := RX3) (T := TX3) (N := 21) hx hb hts hinX3 hown hK hP 0 rfl rfl 5 (by decide) k27 (fun _ h9 => h9) rfl dX3_stops_34 ?_
  refine lv_iload_n hx hb dX3_stops_37 rfl (lv_at hl 3 rfl) ?_
  refine lv_lload_n hx hb dX3_stops_38 rfl (lv_at hl 1 rfl) ?_
  refine va_last hx hb hK hP hD hS 6 1 rfl rfl h_t dX3_stops_39 (fun H locs hP hD hS => ?_)
  have hP : va_P D vwCl (wM K a (pM_LO s (vp_updL (gM_LO s) t.toNatClampNeg x1))) H := hP
  have hD : va_D A (wM K a (pM_LO s (vp_updL (gM_LO s) t.toNatClampNeg x1))) := hD
  refine lv_aload_n hx hb dX3_stops_40 rfl (lv_at hl 2 rfl) ?_
  refine va_get (D := D) (ci := 2) (C := RX3) (T := TX3) (N := 21) hx hb hts hinX3 hown hK hP 0 rfl rfl 6 (by decide) k30 (fun _ h9 => h9) rfl dX3_stops_41 ?_
  refine lv_iload_n hx hb dX3_stops_44 rfl (lv_at hl 3 rfl) ?_
  refine lv_lload hx hb dX3_stops_45 (lv_at hl 0 rfl) ?_
  refine va_last hx hb hK hP hD hS 7 1 rfl rfl h_t dX3_stops_47 (fun H locs hP hD hS => ?_)
  have hP : va_P D vwCl (wM K a (pM_HI (pM_LO s (vp_updL (gM_LO s) t.toNatClampNeg x1)) (vp_updL (gM_HI s) t.toNatClampNeg x2))) H := hP
  have hD : va_D A (wM K a (pM_HI (pM_LO s (vp_updL (gM_LO s) t.toNatClampNeg x1)) (vp_updL (gM_HI s) t.toNatClampNeg x2))) := hD
  subst ex2 ex1
  exact rt_V (s1 := _) hx hb hr hlk hK hP hD hS (Eq.symm (rfl)) dX3_stops_48

def f_X3_wholes (s : SM) (n : Int32) (t : Int32) : SM := let x1 := f_X3_thin ((gM_P s) t.toNatClampNeg); if n = 3 then (pM_P (pM_L s (vp_updL (gM_L s) t.toNatClampNeg (f_X3_down ((gM_L s) t.toNatClampNeg) 52))) (upd (gM_P s) t.toNatClampNeg (Int64.toInt32 (f_X3_down x1 23)))) else (if n = 4 then (pM_P (pM_L s (vp_updL (gM_L s) t.toNatClampNeg (f_X3_up ((gM_L s) t.toNatClampNeg) 52))) (upd (gM_P s) t.toNatClampNeg (Int64.toInt32 (f_X3_up x1 23)))) else (pM_P (pM_L s (vp_updL (gM_L s) t.toNatClampNeg (f_X3_near ((gM_L s) t.toNatClampNeg) 52))) (upd (gM_P s) t.toNatClampNeg (Int64.toInt32 (f_X3_near x1 23)))))
set_option maxHeartbeats 4000000 in
set_option maxRecDepth 100000 in
theorem c_X3_wholes (l : Launch) (D : va_G) (K : ClassId × ClassId × ClassId) (a : Nat → Nat) (s : SM) (n : Int32) (t : Int32) (h_t : vp_in t 8)  : MetV l yX3_wholes wsX3_wholes { frames := 4, cells := 0, slots := 0, locals := 90 } D vwCl (tyK K) (wM K a) [.ref (a 0), .int n, .int t] s (f_X3_wholes s n t) := by
  intro sz0
  refine en_W (cc := cX3_wholes) (maxL := 5) (ret := none) (Qc := fun A => va_Qv (fun u0 : SM => u0 = f_X3_wholes s n t) (bs_a D vwCl (tyK K) (wM K a) A) A) (by decide) rfl (Nat.le_of_ble_eq_true rfl) ?_ sz0
  intro p e st m below meth c ls A hx hb hr hml hts hown hlk hA hK hP hD hS hl
  have hown : st.vm.findClass RX3 = some m.cls := hown
  have hl : lv_has ls 5 [(0, .ref (a 0)), (1, .int n), (2, .int t)] := hl
  have hinX3 : ∀ w ∈ u_ws RX3 TX3 21, w ∈ wsX3_wholes := fun w h => List.mem_cons_of_mem _ (List.mem_append_right _ h)
  have k17 := hts (.fieldLink RX3 17 "PuppetBarModel" "pull" "[I") (by decide +kernel)
  have k13 := hts (.fieldLink RX3 13 "PuppetBarModel" "length" "[J") (by decide +kernel)
  refine lv_aload_n hx hb dX3_wholes_0 rfl (lv_at hl 0 rfl) ?_
  refine va_get (D := D) (ci := 2) (C := RX3) (T := TX3) (N := 21) hx hb hts hinX3 hown hK hP 0 rfl rfl 2 (by decide) k17 (fun _ h9 => h9) rfl dX3_wholes_1 ?_
  refine lv_iload_n hx hb dX3_wholes_4 rfl (lv_at hl 2 rfl) ?_
  refine va_iald hx hb hK hP 3 0 rfl rfl h_t dX3_wholes_5 ?_
  refine cl_Pl (c_X3_thin l _) ⟨hx, hb, hml, hown, hts⟩ (va_cwS 1 hts gX3_wholes_X3_thin rfl rfl rfl (by decide +kernel) ⟨Nat.le_of_ble_eq_true rfl, Nat.le_of_ble_eq_true rfl⟩) rfl hl.1 rfl (Nat.le_of_ble_eq_true rfl) (Nat.zero_le _) (Nat.zero_le _) dX3_wholes_6 ?_
  refine tpl (fun x1 ex1 => ?_)
  refine lv_lstore_n (lv' := [(3, .long x1), (0, .ref (a 0)), (1, .int n), (2, .int t)]) hx hb dX3_wholes_9 rfl hl (by decide) rfl (fun ls hl => ?_)
  refine lv_aload_n hx hb dX3_wholes_10 rfl (lv_at hl 1 rfl) ?_
  refine va_get (D := D) (ci := 2) (C := RX3) (T := TX3) (N := 21) hx hb hts hinX3 hown hK hP 0 rfl rfl 1 (by decide) k13 (fun _ h9 => h9) rfl dX3_wholes_11 ?_
  refine lv_iload_n hx hb dX3_wholes_14 rfl (lv_at hl 3 rfl) ?_
  refine lv_iload_n hx hb dX3_wholes_15 rfl (lv_at hl 2 rfl) ?_
  refine lv_iconst (v := 3) hx hb dX3_wholes_16 (by decide) ?_
  refine lv_icmp_ne (tgt := 34) hx hb dX3_wholes_17 (by decide) (fun c_17 => ?_) (fun c_17 => ?_)
  · refine lv_iload_n hx hb dX3_wholes_34 rfl (lv_at hl 2 rfl) ?_
    refine lv_iconst (v := 4) hx hb dX3_wholes_35 (by decide) ?_
    refine lv_icmp_ne (tgt := 53) hx hb dX3_wholes_36 (by decide) (fun c_36 => ?_) (fun c_36 => ?_)
    · refine lv_aload_n hx hb dX3_wholes_53 rfl (lv_at hl 1 rfl) ?_
      refine va_get (D := D) (ci := 2) (C := RX3) (T := TX3) (N := 21) hx hb hts hinX3 hown hK hP 0 rfl rfl 1 (by decide) k13 (fun _ h9 => h9) rfl dX3_wholes_54 ?_
      refine lv_iload_n hx hb dX3_wholes_57 rfl (lv_at hl 3 rfl) ?_
      refine va_lald hx hb hK hP 2 1 rfl rfl h_t dX3_wholes_58 ?_
      refine lv_bipush (v := 52) hx hb dX3_wholes_59 (by decide) ?_
      refine cl_Pl (c_X3_near l _ _) ⟨hx, hb, hml, hown, hts⟩ (va_cwS 2 hts gX3_wholes_X3_near rfl rfl rfl (by decide +kernel) ⟨Nat.le_of_ble_eq_true rfl, Nat.le_of_ble_eq_true rfl⟩) rfl hl.1 rfl (Nat.le_of_ble_eq_true rfl) (Nat.zero_le _) (Nat.zero_le _) dX3_wholes_61 ?_
      refine va_last hx hb hK hP hD hS 2 1 rfl rfl h_t dX3_wholes_64 (fun H locs hP hD hS => ?_)
      have hP : va_P D vwCl (wM K a (pM_L s (vp_updL (gM_L s) t.toNatClampNeg (f_X3_near ((gM_L s) t.toNatClampNeg) 52)))) H := hP
      have hD : va_D A (wM K a (pM_L s (vp_updL (gM_L s) t.toNatClampNeg (f_X3_near ((gM_L s) t.toNatClampNeg) 52)))) := hD
      refine lv_aload_n hx hb dX3_wholes_65 rfl (lv_at hl 1 rfl) ?_
      refine va_get (D := D) (ci := 2) (C := RX3) (T := TX3) (N := 21) hx hb hts hinX3 hown hK hP 0 rfl rfl 2 (by decide) k17 (fun _ h9 => h9) rfl dX3_wholes_66 ?_
      refine lv_iload_n hx hb dX3_wholes_69 rfl (lv_at hl 3 rfl) ?_
      refine lv_iload_n hx hb dX3_wholes_70 rfl (lv_at hl 2 rfl) ?_
      refine lv_iconst (v := 3) hx hb dX3_wholes_71 (by decide) ?_
      refine lv_icmp_ne (tgt := 84) hx hb dX3_wholes_72 (by decide) (fun c2 => ?_) (fun c2 => absurd c2 c_17)
      refine lv_iload_n hx hb dX3_wholes_84 rfl (lv_at hl 2 rfl) ?_
      refine lv_iconst (v := 4) hx hb dX3_wholes_85 (by decide) ?_
      refine lv_icmp_ne (tgt := 98) hx hb dX3_wholes_86 (by decide) (fun c3 => ?_) (fun c3 => absurd c3 c_36)
      refine lv_lload_n hx hb dX3_wholes_98 rfl (lv_at hl 0 rfl) ?_
      refine lv_bipush (v := 23) hx hb dX3_wholes_99 (by decide) ?_
      refine cl_Pl (c_X3_near l _ _) ⟨hx, hb, hml, hown, hts⟩ (va_cwS 2 hts gX3_wholes_X3_near rfl rfl rfl (by decide +kernel) ⟨Nat.le_of_ble_eq_true rfl, Nat.le_of_ble_eq_true rfl⟩) rfl hl.1 rfl (Nat.le_of_ble_eq_true rfl) (Nat.zero_le _) (Nat.zero_le _) dX3_wholes_101 ?_
      refine lv_l2i hx hb dX3_wholes_104 rfl ?_
      refine va_iast hx hb hK hP hD hS 3 0 rfl rfl h_t dX3_wholes_105 (fun H locs hP hD hS => ?_)
      have hP : va_P D vwCl (wM K a (pM_P (pM_L s (vp_updL (gM_L s) t.toNatClampNeg (f_X3_near ((gM_L s) t.toNatClampNeg) 52))) (upd (gM_P s) t.toNatClampNeg (Int64.toInt32 (f_X3_near x1 23))))) H := hP
      have hD : va_D A (wM K a (pM_P (pM_L s (vp_updL (gM_L s) t.toNatClampNeg (f_X3_near ((gM_L s) t.toNatClampNeg) 52))) (upd (gM_P s) t.toNatClampNeg (Int64.toInt32 (f_X3_near x1 23))))) := hD
      subst ex1
      exact rt_V (s1 := _) hx hb hr hlk hK hP hD hS (Eq.symm (Eq.trans (if_neg c_17) (Eq.trans (if_neg c_36) (rfl)))) dX3_wholes_106
    · refine lv_aload_n hx hb dX3_wholes_39 rfl (lv_at hl 1 rfl) ?_
      refine va_get (D := D) (ci := 2) (C := RX3) (T := TX3) (N := 21) hx hb hts hinX3 hown hK hP 0 rfl rfl 1 (by decide) k13 (fun _ h9 => h9) rfl dX3_wholes_40 ?_
      refine lv_iload_n hx hb dX3_wholes_43 rfl (lv_at hl 3 rfl) ?_
      refine va_lald hx hb hK hP 2 1 rfl rfl h_t dX3_wholes_44 ?_
      refine lv_bipush (v := 52) hx hb dX3_wholes_45 (by decide) ?_
      refine cl_Pl (c_X3_up l _ _) ⟨hx, hb, hml, hown, hts⟩ (va_cwS 2 hts gX3_wholes_X3_up rfl rfl rfl (by decide +kernel) ⟨Nat.le_of_ble_eq_true rfl, Nat.le_of_ble_eq_true rfl⟩) rfl hl.1 rfl (Nat.le_of_ble_eq_true rfl) (Nat.zero_le _) (Nat.zero_le _) dX3_wholes_47 ?_
      refine lv_goto (tgt := 64) hx hb dX3_wholes_50 (by decide) ?_
      refine va_last hx hb hK hP hD hS 2 1 rfl rfl h_t dX3_wholes_64 (fun H locs hP hD hS => ?_)
      have hP : va_P D vwCl (wM K a (pM_L s (vp_updL (gM_L s) t.toNatClampNeg (f_X3_up ((gM_L s) t.toNatClampNeg) 52)))) H := hP
      have hD : va_D A (wM K a (pM_L s (vp_updL (gM_L s) t.toNatClampNeg (f_X3_up ((gM_L s) t.toNatClampNeg) 52)))) := hD
      refine lv_aload_n hx hb dX3_wholes_65 rfl (lv_at hl 1 rfl) ?_
      refine va_get (D := D) (ci := 2) (C := RX3) (T := TX3) (N := 21) hx hb hts hinX3 hown hK hP 0 rfl rfl 2 (by decide) k17 (fun _ h9 => h9) rfl dX3_wholes_66 ?_
      refine lv_iload_n hx hb dX3_wholes_69 rfl (lv_at hl 3 rfl) ?_
      refine lv_iload_n hx hb dX3_wholes_70 rfl (lv_at hl 2 rfl) ?_
      refine lv_iconst (v := 3) hx hb dX3_wholes_71 (by decide) ?_
      refine lv_icmp_ne (tgt := 84) hx hb dX3_wholes_72 (by decide) (fun c4 => ?_) (fun c4 => absurd c4 c_17)
      refine lv_iload_n hx hb dX3_wholes_84 rfl (lv_at hl 2 rfl) ?_
      refine lv_iconst (v := 4) hx hb dX3_wholes_85 (by decide) ?_
      refine lv_icmp_ne (tgt := 98) hx hb dX3_wholes_86 (by decide) (fun c5 => absurd c_36 c5) (fun c5 => ?_)
      refine lv_lload_n hx hb dX3_wholes_89 rfl (lv_at hl 0 rfl) ?_
      refine lv_bipush (v := 23) hx hb dX3_wholes_90 (by decide) ?_
      refine cl_Pl (c_X3_up l _ _) ⟨hx, hb, hml, hown, hts⟩ (va_cwS 2 hts gX3_wholes_X3_up rfl rfl rfl (by decide +kernel) ⟨Nat.le_of_ble_eq_true rfl, Nat.le_of_ble_eq_true rfl⟩) rfl hl.1 rfl (Nat.le_of_ble_eq_true rfl) (Nat.zero_le _) (Nat.zero_le _) dX3_wholes_92 ?_
      refine lv_goto (tgt := 104) hx hb dX3_wholes_95 (by decide) ?_
      refine lv_l2i hx hb dX3_wholes_104 rfl ?_
      refine va_iast hx hb hK hP hD hS 3 0 rfl rfl h_t dX3_wholes_105 (fun H locs hP hD hS => ?_)
      have hP : va_P D vwCl (wM K a (pM_P (pM_L s (vp_updL (gM_L s) t.toNatClampNeg (f_X3_up ((gM_L s) t.toNatClampNeg) 52))) (upd (gM_P s) t.toNatClampNeg (Int64.toInt32 (f_X3_up x1 23))))) H := hP
      have hD : va_D A (wM K a (pM_P (pM_L s (vp_updL (gM_L s) t.toNatClampNeg (f_X3_up ((gM_L s) t.toNatClampNeg) 52))) (upd (gM_P s) t.toNatClampNeg (Int64.toInt32 (f_X3_up x1 23))))) := hD
      subst ex1
      exact rt_V (s1 := _) hx hb hr hlk hK hP hD hS (Eq.symm (Eq.trans (if_neg c_17) (Eq.trans (if_pos c_36) (rfl)))) dX3_wholes_106
  · refine lv_aload_n hx hb dX3_wholes_20 rfl (lv_at hl 1 rfl) ?_
    refine va_get (D := D) (ci := 2) (C := RX3) (T := TX3) (N := 21) hx hb hts hinX3 hown hK hP 0 rfl rfl 1 (by decide) k13 (fun _ h9 => h9) rfl dX3_wholes_21 ?_
    refine lv_iload_n hx hb dX3_wholes_24 rfl (lv_at hl 3 rfl) ?_
    refine va_lald hx hb hK hP 2 1 rfl rfl h_t dX3_wholes_25 ?_
    refine lv_bipush (v := 52) hx hb dX3_wholes_26 (by decide) ?_
    refine cl_Pl (c_X3_down l _ _) ⟨hx, hb, hml, hown, hts⟩ (va_cwS 2 hts gX3_wholes_X3_down rfl rfl rfl (by decide +kernel) ⟨Nat.le_of_ble_eq_true rfl, Nat.le_of_ble_eq_true rfl⟩) rfl hl.1 rfl (Nat.le_of_ble_eq_true rfl) (Nat.zero_le _) (Nat.zero_le _) dX3_wholes_28 ?_
    refine lv_goto (tgt := 64) hx hb dX3_wholes_31 (by decide) ?_
    refine va_last hx hb hK hP hD hS 2 1 rfl rfl h_t dX3_wholes_64 (fun H locs hP hD hS => ?_)
    have hP : va_P D vwCl (wM K a (pM_L s (vp_updL (gM_L s) t.toNatClampNeg (f_X3_down ((gM_L s) t.toNatClampNeg) 52)))) H := hP
    have hD : va_D A (wM K a (pM_L s (vp_updL (gM_L s) t.toNatClampNeg (f_X3_down ((gM_L s) t.toNatClampNeg) 52)))) := hD
    refine lv_aload_n hx hb dX3_wholes_65 rfl (lv_at hl 1 rfl) ?_
    refine va_get (D := D) (ci := 2) (C := RX3) (T := TX3) (N := 21) hx hb hts hinX3 hown hK hP 0 rfl rfl 2 (by decide) k17 (fun _ h9 => h9) rfl dX3_wholes_66 ?_
    refine lv_iload_n hx hb dX3_wholes_69 rfl (lv_at hl 3 rfl) ?_
    refine lv_iload_n hx hb dX3_wholes_70 rfl (lv_at hl 2 rfl) ?_
    refine lv_iconst (v := 3) hx hb dX3_wholes_71 (by decide) ?_
    refine lv_icmp_ne (tgt := 84) hx hb dX3_wholes_72 (by decide) (fun c6 => absurd c_17 c6) (fun c6 => ?_)
    refine lv_lload_n hx hb dX3_wholes_75 rfl (lv_at hl 0 rfl) ?_
    refine lv_bipush (v := 23) hx hb dX3_wholes_76 (by decide) ?_
    refine cl_Pl (c_X3_down l _ _) ⟨hx, hb, hml, hown, hts⟩ (va_cwS 2 hts gX3_wholes_X3_down rfl rfl rfl (by decide +kernel) ⟨Nat.le_of_ble_eq_true rfl, Nat.le_of_ble_eq_true rfl⟩) rfl hl.1 rfl (Nat.le_of_ble_eq_true rfl) (Nat.zero_le _) (Nat.zero_le _) dX3_wholes_78 ?_
    refine lv_goto (tgt := 104) hx hb dX3_wholes_81 (by decide) ?_
    refine lv_l2i hx hb dX3_wholes_104 rfl ?_
    refine va_iast hx hb hK hP hD hS 3 0 rfl rfl h_t dX3_wholes_105 (fun H locs hP hD hS => ?_)
    have hP : va_P D vwCl (wM K a (pM_P (pM_L s (vp_updL (gM_L s) t.toNatClampNeg (f_X3_down ((gM_L s) t.toNatClampNeg) 52))) (upd (gM_P s) t.toNatClampNeg (Int64.toInt32 (f_X3_down x1 23))))) H := hP
    have hD : va_D A (wM K a (pM_P (pM_L s (vp_updL (gM_L s) t.toNatClampNeg (f_X3_down ((gM_L s) t.toNatClampNeg) 52))) (upd (gM_P s) t.toNatClampNeg (Int64.toInt32 (f_X3_down x1 23))))) := hD
    subst ex1
    exact rt_V (s1 := _) hx hb hr hlk hK hP hD hS (Eq.symm (Eq.trans (if_pos c_17) (rfl))) dX3_wholes_106
