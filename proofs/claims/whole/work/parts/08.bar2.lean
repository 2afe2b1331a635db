def f_X2_flip (s : SB) (t : Int32) : SB := let s1 := f_X2_changeLength s t (f_X1_amount ((gB_L s) t.toNatClampNeg)); let s2 := f_X2_changePull s1 t (f_X1_shortAmount ((gB_P s1) t.toNatClampNeg)); let s3 := f_X2_changeKnots s2 t (if 0 ≤ ((gB_K s2) t.toNatClampNeg) then ((gB_K s2) t.toNatClampNeg) else 0 - ((gB_K s2) t.toNatClampNeg)); let s4 := f_X2_changeTwist s3 t (if 0 < ((gB_T s3) t.toNatClampNeg) then ((gB_T s3) t.toNatClampNeg) else -((gB_T s3) t.toNatClampNeg)); s4
set_option maxHeartbeats 4000000 in
set_option maxRecDepth 100000 in
theorem c_X2_flip (l : Launch) (D : va_G) (K : ClassId × ClassId × ClassId) (a : Nat → Nat) (s : SB) (t : Int32) (h_t : vp_in t 8)  : MetV l yX2_flip wsX2_flip { frames := 1, cells := 0, slots := 0, locals := 23 } D vwCl (tyK K) (wB K a) [.ref (a 0), .int t] s (f_X2_flip s t) := by
  intro sz0
  refine en_W (cc := cX2_flip) (maxL := 2) (ret := none) (Qc := fun A => va_Qv (fun u0 : SB => u0 = f_X2_flip s t) (bs_a D vwCl (tyK K) (wB K a) A) A) (by decide) rfl (Nat.le_of_ble_eq_true rfl) ?_ sz0
  intro p e st m below meth c ls A hx hb hr hml hts hown hlk hA hK hP hD hS hl
  have hown : st.vm.findClass RX2 = some m.cls := hown
  have hl : lv_has ls 2 [(0, .ref (a 0)), (1, .int t)] := hl
  have hinX2 : ∀ w ∈ u_ws RX2 TX2 15, w ∈ wsX2_flip := fun w h => List.mem_cons_of_mem _ (List.mem_append_right _ h)
  have k9 := hts (.fieldLink RX2 9 "PuppetBar" "lengths" "[J") (by decide +kernel)
  have k13 := hts (.fieldLink RX2 13 "PuppetBar" "pulls" "[I") (by decide +kernel)
  have k17 := hts (.fieldLink RX2 17 "PuppetBar" "knots" "[I") (by decide +kernel)
  have k199 := hts (.methodLink RX2 199 Lib.Math.abs.name) (by decide +kernel)
  have sabs := hts (.static Lib.Math.abs.name) (by decide +kernel)
  have kini := hts (.initialized "java/lang/Math") (by decide +kernel)
  have dabs := hts (.code Lib.Math.abs.name Lib.Math.abs.code 1 (some .int)) (by decide +kernel)
  have k20 := hts (.fieldLink RX2 20 "PuppetBar" "twists" "[J") (by decide +kernel)
  have k207 := hts (.methodLink RX2 207 Lib.MathLoose.abs_long.x) (by decide +kernel)
  have sabs_long := hts (.static Lib.MathLoose.abs_long.x) (by decide +kernel)
  have dabs_long := hts (.code Lib.MathLoose.abs_long.x Lib.MathLoose.abs_long.code 2 (some .long)) (by decide +kernel)
  refine lv_aload_n hx hb dX2_flip_0 rfl (lv_at hl 0 rfl) ?_
  refine lv_iload_n hx hb dX2_flip_1 rfl (lv_at hl 1 rfl) ?_
  refine lv_aload_n hx hb dX2_flip_2 rfl (lv_at hl 0 rfl) ?_
  refine va_get (D := D) (ci := 1) (C := RX2) (T := TX2) (N := 15) hx hb hts hinX2 hown hK hP 0 rfl rfl 0 (by decide) k9 (fun _ h9 => h9) rfl dX2_flip_3 ?_
  refine lv_iload_n hx hb dX2_flip_6 rfl (lv_at hl 1 rfl) ?_
  refine va_lald hx hb hK hP 1 1 rfl rfl h_t dX2_flip_7 ?_
  refine cl_Pl (c_X1_amount l _) ⟨hx, hb, hml, hown, hts⟩ (va_cwS 1 hts gX2_flip_X1_amount rfl rfl rfl (by decide +kernel) ⟨Nat.le_of_ble_eq_true rfl, Nat.le_of_ble_eq_true rfl⟩) rfl hl.1 rfl (Nat.le_of_ble_eq_true rfl) (Nat.zero_le _) (Nat.zero_le _) dX2_flip_8 ?_
  refine cl_V (c_X2_changeLength l D K a _ _ _ h_t) ⟨hx, hb, hml, hown, hts⟩ (cwV 2 hts gX2_flip_X2_changeLength rfl rfl rfl (by decide +kernel) ⟨Nat.le_of_ble_eq_true rfl, Nat.le_of_ble_eq_true rfl⟩) hK hP hD hS hA rfl rfl rfl rfl hl.1 rfl (Nat.le_of_ble_eq_true rfl) (Nat.zero_le _) (Nat.zero_le _) dX2_flip_11 (fun H locs hP hD hS => ?_)
  obtain ⟨s1, es1⟩ : ∃ zz : SB, f_X2_changeLength s t (f_X1_amount ((gB_L s) t.toNatClampNeg)) = zz := ⟨_, rfl⟩
  rw [es1] at hP hD
  refine lv_aload_n hx hb dX2_flip_14 rfl (lv_at hl 0 rfl) ?_
  refine lv_iload_n hx hb dX2_flip_15 rfl (lv_at hl 1 rfl) ?_
  refine lv_aload_n hx hb dX2_flip_16 rfl (lv_at hl 0 rfl) ?_
  refine va_get (D := D) (ci := 1) (C := RX2) (T := TX2) (N := 15) hx hb hts hinX2 hown hK hP 0 rfl rfl 1 (by decide) k13 (fun _ h9 => h9) rfl dX2_flip_17 ?_
  refine lv_iload_n hx hb dX2_flip_20 rfl (lv_at hl 1 rfl) ?_
  refine va_iald hx hb hK hP 2 0 rfl rfl h_t dX2_flip_21 ?_
  refine cl_Pi (c_X1_shortAmount l _) ⟨hx, hb, hml, hown, hts⟩ (va_cwS 1 hts gX2_flip_X1_shortAmount rfl rfl rfl (by decide +kernel) ⟨Nat.le_of_ble_eq_true rfl, Nat.le_of_ble_eq_true rfl⟩) rfl hl.1 rfl (Nat.le_of_ble_eq_true rfl) (Nat.zero_le _) (Nat.zero_le _) dX2_flip_22 ?_
  refine cl_V (c_X2_changePull l D K a _ _ _ h_t) ⟨hx, hb, hml, hown, hts⟩ (cwV 2 hts gX2_flip_X2_changePull rfl rfl rfl (by decide +kernel) ⟨Nat.le_of_ble_eq_true rfl, Nat.le_of_ble_eq_true rfl⟩) hK hP hD hS hA rfl rfl rfl rfl hl.1 rfl (Nat.le_of_ble_eq_true rfl) (Nat.zero_le _) (Nat.zero_le _) dX2_flip_25 (fun H locs hP hD hS => ?_)
  obtain ⟨s2, es2⟩ : ∃ zz : SB, f_X2_changePull s1 t (f_X1_shortAmount ((gB_P s1) t.toNatClampNeg)) = zz := ⟨_, rfl⟩
  rw [es2] at hP hD
  refine lv_aload_n hx hb dX2_flip_28 rfl (lv_at hl 0 rfl) ?_
  refine lv_iload_n hx hb dX2_flip_29 rfl (lv_at hl 1 rfl) ?_
  refine lv_aload_n hx hb dX2_flip_30 rfl (lv_at hl 0 rfl) ?_
  refine va_get (D := D) (ci := 1) (C := RX2) (T := TX2) (N := 15) hx hb hts hinX2 hown hK hP 0 rfl rfl 2 (by decide) k17 (fun _ h9 => h9) rfl dX2_flip_31 ?_
  refine lv_iload_n hx hb dX2_flip_34 rfl (lv_at hl 1 rfl) ?_
  refine va_iald hx hb hK hP 3 0 rfl rfl h_t dX2_flip_35 ?_
  refine va_mabs hx hb (hml.trans hl.1.symm) hown k199 sabs kini dabs (Nat.le_of_ble_eq_true rfl) (Nat.le_of_ble_eq_true rfl) (Nat.zero_le _) (Nat.zero_le _) dX2_flip_36 ?_
  refine cl_V (c_X2_changeKnots l D K a _ _ _ h_t) ⟨hx, hb, hml, hown, hts⟩ (cwV 2 hts gX2_flip_X2_changeKnots rfl rfl rfl (by decide +kernel) ⟨Nat.le_of_ble_eq_true rfl, Nat.le_of_ble_eq_true rfl⟩) hK hP hD hS hA rfl rfl rfl rfl hl.1 rfl (Nat.le_of_ble_eq_true rfl) (Nat.zero_le _) (Nat.zero_le _) dX2_flip_39 (fun H locs hP hD hS => ?_)
  obtain ⟨s3, es3⟩ : ∃ zz : SB, f_X2_changeKnots s2 t (if 0 ≤ ((gB_K s2) t.toNatClampNeg) then ((gB_K s2) t.toNatClampNeg) else 0 - ((gB_K s2) t.toNatClampNeg)) = zz := ⟨_, rfl⟩
  rw [es3] at hP hD
  refine lv_aload_n hx hb dX2_flip_42 rfl (lv_at hl 0 rfl) ?_
  refine lv_iload_n hx hb dX2_flip_43 rfl (lv_at hl 1 rfl) ?_
  refine lv_aload_n hx hb dX2_flip_44 rfl (lv_at hl 0 rfl) ?_
  refine va_get (D := D) (ci := 1) (C := RX2) (T := TX2) (N := 15) hx hb hts hinX2 hown hK hP 0 rfl rfl 3 (by decide) k20 (fun _ h9 => h9) rfl dX2_flip_45 ?_
  refine lv_iload_n hx hb dX2_flip_48 rfl (lv_at hl 1 rfl) ?_
  refine va_lald hx hb hK hP 4 1 rfl rfl h_t dX2_flip_49 ?_
  refine va_mabs_long hx hb (hml.trans hl.1.symm) hown k207 sabs_long kini dabs_long (Nat.le_of_ble_eq_true rfl) (Nat.le_of_ble_eq_true rfl) (Nat.zero_le _) (Nat.zero_le _) dX2_flip_50 ?_
  refine cl_V (c_X2_changeTwist l D K a _ _ _ h_t) ⟨hx, hb, hml, hown, hts⟩ (cwV 2 hts gX2_flip_X2_changeTwist rfl rfl rfl (by decide +kernel) ⟨Nat.le_of_ble_eq_true rfl, Nat.le_of_ble_eq_true rfl⟩) hK hP hD hS hA rfl rfl rfl rfl hl.1 rfl (Nat.le_of_ble_eq_true rfl) (Nat.zero_le _) (Nat.zero_le _) dX2_flip_53 (fun H locs hP hD hS => ?_)
  obtain ⟨s4, es4⟩ : ∃ zz : SB, f_X2_changeTwist s3 t (if 0 < ((gB_T s3) t.toNatClampNeg) then ((gB_T s3) t.toNatClampNeg) else -((gB_T s3) t.toNatClampNeg)) = zz := ⟨_, rfl⟩
  rw [es4] at hP hD
  subst es4 es3 es2 es1
  exact rt_V (s1 := _) hx hb hr hlk hK hP hD hS (Eq.symm (rfl)) dX2_flip_56

def f_X2_letNear (s : SB) (t : Int32) : SB := let s1 := f_X2_changeAmounts s t (f_X1_wholeNear (f_X1_amount ((gB_L s) t.toNatClampNeg)) 52 1023) (f_X1_wholeNear (Int32.toInt64 (f_X1_shortAmount ((gB_P s) t.toNatClampNeg))) 23 127); s1
set_option maxHeartbeats 4000000 in
set_option maxRecDepth 100000 in
theorem c_X2_letNear (l : Launch) (D : va_G) (K : ClassId × ClassId × ClassId) (a : Nat → Nat) (s : SB) (t : Int32) (h_t : vp_in t 8)  : MetV l yX2_letNear wsX2_letNear { frames := 3, cells := 0, slots := 0, locals := 79 } D vwCl (tyK K) (wB K a) [.ref (a 0), .int t] s (f_X2_letNear s t) := by
  intro sz0
  refine en_W (cc := cX2_letNear) (maxL := 2) (ret := none) (Qc := fun A => va_Qv (fun u0 : SB => u0 = f_X2_letNear s t) (bs_a D vwCl (tyK K) (wB K a) A) A) (by decide) rfl (Nat.le_of_ble_eq_true rfl) ?_ sz0
  intro p e st m below meth c ls A hx hb hr hml hts hown hlk hA hK hP hD hS hl
  have hown : st.vm.findClass RX2 = some m.cls := hown
  have hl : lv_has ls 2 [(0, .ref (a 0)), (1, .int t)] := hl
  have hinX2 : ∀ w ∈ u_ws RX2 TX2 15, w ∈ wsX2_letNear := fun w h => List.mem_cons_of_mem _ (List.mem_append_right _ h)
  have k9 := hts (.fieldLink RX2 9 "PuppetBar" "lengths" "[J") (by decide +kernel)
  have k13 := hts (.fieldLink RX2 13 "PuppetBar" "pulls" "[I") (by decide +kernel)
  refine lv_aload_n hx hb dX2_letNear_0 rfl (lv_at hl 0 rfl) ?_
  refine lv_iload_n hx hb dX2_letNear_1 rfl (lv_at hl 1 rfl) ?_
  refine lv_aload_n hx hb dX2_letNear_2 rfl (lv_at hl 0 rfl) ?_
  refine va_get (D := D) (ci := 1) (C := RX2) (T := TX2) (N := 15) hx hb hts hinX2 hown hK hP 0 rfl rfl 0 (by decide) k9 (fun _ h9 => h9) rfl dX2_letNear_3 ?_
  refine lv_iload_n hx hb dX2_letNear_6 rfl (lv_at hl 1 rfl) ?_
  refine va_lald hx hb hK hP 1 1 rfl rfl h_t dX2_letNear_7 ?_
  refine cl_Pl (c_X1_amount l _) ⟨hx, hb, hml, hown, hts⟩ (va_cwS 1 hts gX2_letNear_X1_amount rfl rfl rfl (by decide +kernel) ⟨Nat.le_of_ble_eq_true rfl, Nat.le_of_ble_eq_true rfl⟩) rfl hl.1 rfl (Nat.le_of_ble_eq_true rfl) (Nat.zero_le _) (Nat.zero_le _) dX2_letNear_8 ?_
  refine lv_bipush (v := 52) hx hb dX2_letNear_11 (by decide) ?_
  refine lv_sipush (v := 1023) hx hb dX2_letNear_13 (by decide) ?_
  refine cl_Pl (c_X1_wholeNear l _ _ _) ⟨hx, hb, hml, hown, hts⟩ (va_cwS 3 hts gX2_letNear_X1_wholeNear rfl rfl rfl (by decide +kernel) ⟨Nat.le_of_ble_eq_true rfl, Nat.le_of_ble_eq_true rfl⟩) rfl hl.1 rfl (Nat.le_of_ble_eq_true rfl) (Nat.zero_le _) (Nat.zero_le _) dX2_letNear_16 ?_
  refine lv_aload_n hx hb dX2_letNear_19 rfl (lv_at hl 0 rfl) ?_
  refine va_get (D := D) (ci := 1) (C := RX2) (T := TX2) (N := 15) hx hb hts hinX2 hown hK hP 0 rfl rfl 1 (by decide) k13 (fun _ h9 => h9) rfl dX2_letNear_20 ?_
  refine lv_iload_n hx hb dX2_letNear_23 rfl (lv_at hl 1 rfl) ?_
  refine va_iald hx hb hK hP 2 0 rfl rfl h_t dX2_letNear_24 ?_
  refine cl_Pi (c_X1_shortAmount l _) ⟨hx, hb, hml, hown, hts⟩ (va_cwS 1 hts gX2_letNear_X1_shortAmount rfl rfl rfl (by decide +kernel) ⟨Nat.le_of_ble_eq_true rfl, Nat.le_of_ble_eq_true rfl⟩) rfl hl.1 rfl (Nat.le_of_ble_eq_true rfl) (Nat.zero_le _) (Nat.zero_le _) dX2_letNear_25 ?_
  refine lv_i2l hx hb dX2_letNear_28 rfl ?_
  refine lv_bipush (v := 23) hx hb dX2_letNear_29 (by decide) ?_
  refine lv_bipush (v := 127) hx hb dX2_letNear_31 (by decide) ?_
  refine cl_Pl (c_X1_wholeNear l _ _ _) ⟨hx, hb, hml, hown, hts⟩ (va_cwS 3 hts gX2_letNear_X1_wholeNear rfl rfl rfl (by decide +kernel) ⟨Nat.le_of_ble_eq_true rfl, Nat.le_of_ble_eq_true rfl⟩) rfl hl.1 rfl (Nat.le_of_ble_eq_true rfl) (Nat.zero_le _) (Nat.zero_le _) dX2_letNear_33 ?_
  refine cl_V (c_X2_changeAmounts l D K a _ _ _ _ h_t) ⟨hx, hb, hml, hown, hts⟩ (cwV 3 hts gX2_letNear_X2_changeAmounts rfl rfl rfl (by decide +kernel) ⟨Nat.le_of_ble_eq_true rfl, Nat.le_of_ble_eq_true rfl⟩) hK hP hD hS hA rfl rfl rfl rfl hl.1 rfl (Nat.le_of_ble_eq_true rfl) (Nat.zero_le _) (Nat.zero_le _) dX2_letNear_36 (fun H locs hP hD hS => ?_)
  obtain ⟨s1, es1⟩ : ∃ zz : SB, f_X2_changeAmounts s t (f_X1_wholeNear (f_X1_amount ((gB_L s) t.toNatClampNeg)) 52 1023) (f_X1_wholeNear (Int32.toInt64 (f_X1_shortAmount ((gB_P s) t.toNatClampNeg))) 23 127) = zz := ⟨_, rfl⟩
  rw [es1] at hP hD
  subst es1
  exact rt_V (s1 := _) hx hb hr hlk hK hP hD hS (Eq.symm (rfl)) dX2_letNear_39

def f_X2_lean (s : SB) (t : Int32) : SB := if (f_X1_amount ((gB_L s) t.toNatClampNeg)) = 0 then (if (f_X1_shortAmount ((gB_P s) t.toNatClampNeg)) = 0 then (pB_we (pB_ti s ((gB_L s) t.toNatClampNeg)) ((gB_P s) t.toNatClampNeg)) else (pB_we (pB_ti s ((gB_L s) t.toNatClampNeg)) (f_X1_shortWithSign 1065353216 ((gB_P s) t.toNatClampNeg)))) else (if (f_X1_shortAmount ((gB_P s) t.toNatClampNeg)) = 0 then (pB_we (pB_ti s (f_X1_withSign 4607182418800017408 ((gB_L s) t.toNatClampNeg))) ((gB_P s) t.toNatClampNeg)) else (pB_we (pB_ti s (f_X1_withSign 4607182418800017408 ((gB_L s) t.toNatClampNeg))) (f_X1_shortWithSign 1065353216 ((gB_P s) t.toNatClampNeg))))
set_option maxHeartbeats 4000000 in
set_option maxRecDepth 100000 in
theorem c_X2_lean (l : Launch) (D : va_G) (K : ClassId × ClassId × ClassId) (a : Nat → Nat) (s : SB) (t : Int32) (h_t : vp_in t 8)  : MetV l yX2_lean wsX2_lean { frames := 1, cells := 0, slots := 0, locals := 23 } D vwCl (tyK K) (wB K a) [.ref (a 0), .int t] s (f_X2_lean s t) := by
  intro sz0
  refine en_W (cc := cX2_lean) (maxL := 2) (ret := none) (Qc := fun A => va_Qv (fun u0 : SB => u0 = f_X2_lean s t) (bs_a D vwCl (tyK K) (wB K a) A) A) (by decide) rfl (Nat.le_of_ble_eq_true rfl) ?_ sz0
  intro p e st m below meth c ls A hx hb hr hml hts hown hlk hA hK hP hD hS hl
  have hown : st.vm.findClass RX2 = some m.cls := hown
  have hl : lv_has ls 2 [(0, .ref (a 0)), (1, .int t)] := hl
  have hinX2 : ∀ w ∈ u_ws RX2 TX2 15, w ∈ wsX2_lean := fun w h => List.mem_cons_of_mem _ (List.mem_append_right _ h)
  have k9 := hts (.fieldLink RX2 9 "PuppetBar" "lengths" "[J") (by decide +kernel)
  have k249 := hts (.constantLong RX2 249 (4607182418800017408)) (by decide +kernel)
  have k33 := hts (.fieldLink RX2 33 "PuppetBar" "tilt" "J") (by decide +kernel)
  have k13 := hts (.fieldLink RX2 13 "PuppetBar" "pulls" "[I") (by decide +kernel)
  have k254 := hts (.constant RX2 254 (1065353216)) (by decide +kernel)
  have k37 := hts (.fieldLink RX2 37 "PuppetBar" "weight" "I") (by decide +kernel)
  refine lv_aload_n hx hb dX2_lean_0 rfl (lv_at hl 0 rfl) ?_
  refine va_get (D := D) (ci := 1) (C := RX2) (T := TX2) (N := 15) hx hb hts hinX2 hown hK hP 0 rfl rfl 0 (by decide) k9 (fun _ h9 => h9) rfl dX2_lean_1 ?_
  refine lv_iload_n hx hb dX2_lean_4 rfl (lv_at hl 1 rfl) ?_
  refine va_lald hx hb hK hP 1 1 rfl rfl h_t dX2_lean_5 ?_
  refine cl_Pl (c_X1_amount l _) ⟨hx, hb, hml, hown, hts⟩ (va_cwS 1 hts gX2_lean_X1_amount rfl rfl rfl (by decide +kernel) ⟨Nat.le_of_ble_eq_true rfl, Nat.le_of_ble_eq_true rfl⟩) rfl hl.1 rfl (Nat.le_of_ble_eq_true rfl) (Nat.zero_le _) (Nat.zero_le _) dX2_lean_6 ?_
  refine lv_lconst (v := 0) hx hb dX2_lean_9 (by decide) ?_
  refine W.lcmp hx hb dX2_lean_10 ?_
  refine lv_if_ne (tgt := 27) hx hb dX2_lean_11 (by decide) (fun c_11 => ?_) (fun c_11 => ?_)
  · have c_11 := mt (lg_cmp_eq _ _).mpr c_11
    refine lv_aload_n hx hb dX2_lean_27 rfl (lv_at hl 0 rfl) ?_
    refine lv_ldc2 hx hb hown k249 dX2_lean_28 ?_
    refine lv_aload_n hx hb dX2_lean_31 rfl (lv_at hl 0 rfl) ?_
    refine va_get (D := D) (ci := 1) (C := RX2) (T := TX2) (N := 15) hx hb hts hinX2 hown hK hP 0 rfl rfl 0 (by decide) k9 (fun _ h9 => h9) rfl dX2_lean_32 ?_
    refine lv_iload_n hx hb dX2_lean_35 rfl (lv_at hl 1 rfl) ?_
    refine va_lald hx hb hK hP 1 1 rfl rfl h_t dX2_lean_36 ?_
    refine cl_Pl (c_X1_withSign l _ _) ⟨hx, hb, hml, hown, hts⟩ (va_cwS 2 hts gX2_lean_X1_withSign rfl rfl rfl (by decide +kernel) ⟨Nat.le_of_ble_eq_true rfl, Nat.le_of_ble_eq_true rfl⟩) rfl hl.1 rfl (Nat.le_of_ble_eq_true rfl) (Nat.zero_le _) (Nat.zero_le _) dX2_lean_37 ?_
    refine va_put (D := D) (ci := 1) (ty := .long) (C := RX2) (T := TX2) (N := 15) hx hb hts hinX2 tyX2 tyX2_ok nmX2 hown hK hP hD hS 0 rfl rfl 7 (by decide) k33 (fun _ h9 => h9) rfl (by decide +kernel) rfl rfl (Nat.le_of_ble_eq_true rfl) dX2_lean_40 (fun H locs hP hD hS => ?_)
    have hP : va_P D vwCl (wB K a (pB_ti s (f_X1_withSign 4607182418800017408 ((gB_L s) t.toNatClampNeg)))) H := hP
    have hD : va_D A (wB K a (pB_ti s (f_X1_withSign 4607182418800017408 ((gB_L s) t.toNatClampNeg)))) := hD
    refine lv_aload_n hx hb dX2_lean_43 rfl (lv_at hl 0 rfl) ?_
    refine va_get (D := D) (ci := 1) (C := RX2) (T := TX2) (N := 15) hx hb hts hinX2 hown hK hP 0 rfl rfl 1 (by decide) k13 (fun _ h9 => h9) rfl dX2_lean_44 ?_
    refine lv_iload_n hx hb dX2_lean_47 rfl (lv_at hl 1 rfl) ?_
    refine va_iald hx hb hK hP 2 0 rfl rfl h_t dX2_lean_48 ?_
    refine cl_Pi (c_X1_shortAmount l _) ⟨hx, hb, hml, hown, hts⟩ (va_cwS 1 hts gX2_lean_X1_shortAmount rfl rfl rfl (by decide +kernel) ⟨Nat.le_of_ble_eq_true rfl, Nat.le_of_ble_eq_true rfl⟩) rfl hl.1 rfl (Nat.le_of_ble_eq_true rfl) (Nat.zero_le _) (Nat.zero_le _) dX2_lean_49 ?_
    refine lv_if_ne (tgt := 68) hx hb dX2_lean_52 (by decide) (fun c_52 => ?_) (fun c_52 => ?_)
    · refine lv_aload_n hx hb dX2_lean_68 rfl (lv_at hl 0 rfl) ?_
      refine lv_ldc hx hb hown k254 dX2_lean_69 ?_
      refine lv_aload_n hx hb dX2_lean_71 rfl (lv_at hl 0 rfl) ?_
      refine va_get (D := D) (ci := 1) (C := RX2) (T := TX2) (N := 15) hx hb hts hinX2 hown hK hP 0 rfl rfl 1 (by decide) k13 (fun _ h9 => h9) rfl dX2_lean_72 ?_
      refine lv_iload_n hx hb dX2_lean_75 rfl (lv_at hl 1 rfl) ?_
      refine va_iald hx hb hK hP 2 0 rfl rfl h_t dX2_lean_76 ?_
      refine cl_Pi (c_X1_shortWithSign l _ _) ⟨hx, hb, hml, hown, hts⟩ (va_cwS 2 hts gX2_lean_X1_shortWithSign rfl rfl rfl (by decide +kernel) ⟨Nat.le_of_ble_eq_true rfl, Nat.le_of_ble_eq_true rfl⟩) rfl hl.1 rfl (Nat.le_of_ble_eq_true rfl) (Nat.zero_le _) (Nat.zero_le _) dX2_lean_77 ?_
      refine va_put (D := D) (ci := 1) (ty := .int) (C := RX2) (T := TX2) (N := 15) hx hb hts hinX2 tyX2 tyX2_ok nmX2 hown hK hP hD hS 0 rfl rfl 8 (by decide) k37 (fun _ h9 => h9) rfl (by decide +kernel) rfl rfl (Nat.le_of_ble_eq_true rfl) dX2_lean_80 (fun H locs hP hD hS => ?_)
      have hP : va_P D vwCl (wB K a (pB_we (pB_ti s (f_X1_withSign 4607182418800017408 ((gB_L s) t.toNatClampNeg))) (f_X1_shortWithSign 1065353216 ((gB_P s) t.toNatClampNeg)))) H := hP
      have hD : va_D A (wB K a (pB_we (pB_ti s (f_X1_withSign 4607182418800017408 ((gB_L s) t.toNatClampNeg))) (f_X1_shortWithSign 1065353216 ((gB_P s) t.toNatClampNeg)))) := hD
      exact rt_V (s1 := _) hx hb hr hlk hK hP hD hS (Eq.symm (Eq.trans (if_neg c_11) (Eq.trans (if_neg c_52) (rfl)))) dX2_lean_83
    · refine lv_aload_n hx hb dX2_lean_55 rfl (lv_at hl 0 rfl) ?_
      refine lv_aload_n hx hb dX2_lean_56 rfl (lv_at hl 0 rfl) ?_
      refine va_get (D := D) (ci := 1) (C := RX2) (T := TX2) (N := 15) hx hb hts hinX2 hown hK hP 0 rfl rfl 1 (by decide) k13 (fun _ h9 => h9) rfl dX2_lean_57 ?_
      refine lv_iload_n hx hb dX2_lean_60 rfl (lv_at hl 1 rfl) ?_
      refine va_iald hx hb hK hP 2 0 rfl rfl h_t dX2_lean_61 ?_
      refine va_put (D := D) (ci := 1) (ty := .int) (C := RX2) (T := TX2) (N := 15) hx hb hts hinX2 tyX2 tyX2_ok nmX2 hown hK hP hD hS 0 rfl rfl 8 (by decide) k37 (fun _ h9 => h9) rfl (by decide +kernel) rfl rfl (Nat.le_of_ble_eq_true rfl) dX2_lean_62 (fun H locs hP hD hS => ?_)
      have hP : va_P D vwCl (wB K a (pB_we (pB_ti s (f_X1_withSign 4607182418800017408 ((gB_L s) t.toNatClampNeg))) ((gB_P s) t.toNatClampNeg))) H := hP
      have hD : va_D A (wB K a (pB_we (pB_ti s (f_X1_withSign 4607182418800017408 ((gB_L s) t.toNatClampNeg))) ((gB_P s) t.toNatClampNeg))) := hD
      refine lv_goto (tgt := 83) hx hb dX2_lean_65 (by decide) ?_
      exact rt_V (s1 := _) hx hb hr hlk hK hP hD hS (Eq.symm (Eq.trans (if_neg c_11) (Eq.trans (if_pos c_52) (rfl)))) dX2_lean_83
  · have c_11 := (lg_cmp_eq _ _).mp c_11
    refine lv_aload_n hx hb dX2_lean_14 rfl (lv_at hl 0 rfl) ?_
    refine lv_aload_n hx hb dX2_lean_15 rfl (lv_at hl 0 rfl) ?_
    refine va_get (D := D) (ci := 1) (C := RX2) (T := TX2) (N := 15) hx hb hts hinX2 hown hK hP 0 rfl rfl 0 (by decide) k9 (fun _ h9 => h9) rfl dX2_lean_16 ?_
    refine lv_iload_n hx hb dX2_lean_19 rfl (lv_at hl 1 rfl) ?_
    refine va_lald hx hb hK hP 1 1 rfl rfl h_t dX2_lean_20 ?_
    refine va_put (D := D) (ci := 1) (ty := .long) (C := RX2) (T := TX2) (N := 15) hx hb hts hinX2 tyX2 tyX2_ok nmX2 hown hK hP hD hS 0 rfl rfl 7 (by decide) k33 (fun _ h9 => h9) rfl (by decide +kernel) rfl rfl (Nat.le_of_ble_eq_true rfl) dX2_lean_21 (fun H locs hP hD hS => ?_)
    have hP : va_P D vwCl (wB K a (pB_ti s ((gB_L s) t.toNatClampNeg))) H := hP
    have hD : va_D A (wB K a (pB_ti s ((gB_L s) t.toNatClampNeg))) := hD
    refine lv_goto (tgt := 43) hx hb dX2_lean_24 (by decide) ?_
    refine lv_aload_n hx hb dX2_lean_43 rfl (lv_at hl 0 rfl) ?_
    refine va_get (D := D) (ci := 1) (C := RX2) (T := TX2) (N := 15) hx hb hts hinX2 hown hK hP 0 rfl rfl 1 (by decide) k13 (fun _ h9 => h9) rfl dX2_lean_44 ?_
    refine lv_iload_n hx hb dX2_lean_47 rfl (lv_at hl 1 rfl) ?_
    refine va_iald hx hb hK hP 2 0 rfl rfl h_t dX2_lean_48 ?_
    refine cl_Pi (c_X1_shortAmount l _) ⟨hx, hb, hml, hown, hts⟩ (va_cwS 1 hts gX2_lean_X1_shortAmount rfl rfl rfl (by decide +kernel) ⟨Nat.le_of_ble_eq_true rfl, Nat.le_of_ble_eq_true rfl⟩) rfl hl.1 rfl (Nat.le_of_ble_eq_true rfl) (Nat.zero_le _) (Nat.zero_le _) dX2_lean_49 ?_
    refine lv_if_ne (tgt := 68) hx hb dX2_lean_52 (by decide) (fun c_52 => ?_) (fun c_52 => ?_)
    · refine lv_aload_n hx hb dX2_lean_68 rfl (lv_at hl 0 rfl) ?_
      refine lv_ldc hx hb hown k254 dX2_lean_69 ?_
      refine lv_aload_n hx hb dX2_lean_71 rfl (lv_at hl 0 rfl) ?_
      refine va_get (D := D) (ci := 1) (C := RX2) (T := TX2) (N := 15) hx hb hts hinX2 hown hK hP 0 rfl rfl 1 (by decide) k13 (fun _ h9 => h9) rfl dX2_lean_72 ?_
      refine lv_iload_n hx hb dX2_lean_75 rfl (lv_at hl 1 rfl) ?_
      refine va_iald hx hb hK hP 2 0 rfl rfl h_t dX2_lean_76 ?_
      refine cl_Pi (c_X1_shortWithSign l _ _) ⟨hx, hb, hml, hown, hts⟩ (va_cwS 2 hts gX2_lean_X1_shortWithSign rfl rfl rfl (by decide +kernel) ⟨Nat.le_of_ble_eq_true rfl, Nat.le_of_ble_eq_true rfl⟩) rfl hl.1 rfl (Nat.le_of_ble_eq_true rfl) (Nat.zero_le _) (Nat.zero_le _) dX2_lean_77 ?_
      refine va_put (D := D) (ci := 1) (ty := .int) (C := RX2) (T := TX2) (N := 15) hx hb hts hinX2 tyX2 tyX2_ok nmX2 hown hK hP hD hS 0 rfl rfl 8 (by decide) k37 (fun _ h9 => h9) rfl (by decide +kernel) rfl rfl (Nat.le_of_ble_eq_true rfl) dX2_lean_80 (fun H locs hP hD hS => ?_)
      have hP : va_P D vwCl (wB K a (pB_we (pB_ti s ((gB_L s) t.toNatClampNeg)) (f_X1_shortWithSign 1065353216 ((gB_P s) t.toNatClampNeg)))) H := hP
      have hD : va_D A (wB K a (pB_we (pB_ti s ((gB_L s) t.toNatClampNeg)) (f_X1_shortWithSign 1065353216 ((gB_P s) t.toNatClampNeg)))) := hD
      exact rt_V (s1 := _) hx hb hr hlk hK hP hD hS (Eq.symm (Eq.trans (if_pos c_11) (Eq.trans (if_neg c_52) (rfl)))) dX2_lean_83
    · refine lv_aload_n hx hb dX2_lean_55 rfl (lv_at hl 0 rfl) ?_
      refine lv_aload_n hx hb dX2_lean_56 rfl (lv_at hl 0 rfl) ?_
      refine va_get (D := D) (ci := 1) (C := RX2) (T := TX2) (N := 15) hx hb hts hinX2 hown hK hP 0 rfl rfl 1 (by decide) k13 (fun _ h9 => h9) rfl dX2_lean_57 ?_
      refine lv_iload_n hx hb dX2_lean_60 rfl (lv_at hl 1 rfl) ?_
      refine va_iald hx hb hK hP 2 0 rfl rfl h_t dX2_lean_61 ?_
      refine va_put (D := D) (ci := 1) (ty := .int) (C := RX2) (T := TX2) (N := 15) hx hb hts hinX2 tyX2 tyX2_ok nmX2 hown hK hP hD hS 0 rfl rfl 8 (by decide) k37 (fun _ h9 => h9) rfl (by decide +kernel) rfl rfl (Nat.le_of_ble_eq_true rfl) dX2_lean_62 (fun H locs hP hD hS => ?_)
      have hP : va_P D vwCl (wB K a (pB_we (pB_ti s ((gB_L s) t.toNatClampNeg)) ((gB_P s) t.toNatClampNeg))) H := hP
      have hD : va_D A (wB K a (pB_we (pB_ti s ((gB_L s) t.toNatClampNeg)) ((gB_P s) t.toNatClampNeg))) := hD
      refine lv_goto (tgt := 83) hx hb dX2_lean_65 (by decide) ?_
      exact rt_V (s1 := _) hx hb hr hlk hK hP hD hS (Eq.symm (Eq.trans (if_pos c_11) (Eq.trans (if_pos c_52) (rfl)))) dX2_lean_83

def f_X2_hold (s : SB) (t : Int32) : SB := let s1 := f_X2_changeLength s t (f_X1_lesser (f_X1_greater ((gB_L s) t.toNatClampNeg) ((gB_LO s) t.toNatClampNeg)) ((gB_HI s) t.toNatClampNeg)); s1
set_option maxHeartbeats 4000000 in
set_option maxRecDepth 100000 in
theorem c_X2_hold (l : Launch) (D : va_G) (K : ClassId × ClassId × ClassId) (a : Nat → Nat) (s : SB) (t : Int32) (h_t : vp_in t 8)  : MetV l yX2_hold wsX2_hold { frames := 2, cells := 0, slots := 0, locals := 44 } D vwCl (tyK K) (wB K a) [.ref (a 0), .int t] s (f_X2_hold s t) := by
  intro sz0
  refine en_W (cc := cX2_hold) (maxL := 2) (ret := none) (Qc := fun A => va_Qv (fun u0 : SB => u0 = f_X2_hold s t) (bs_a D vwCl (tyK K) (wB K a) A) A) (by decide) rfl (Nat.le_of_ble_eq_true rfl) ?_ sz0
  intro p e st m below meth c ls A hx hb hr hml hts hown hlk hA hK hP hD hS hl
  have hown : st.vm.findClass RX2 = some m.cls := hown
  have hl : lv_has ls 2 [(0, .ref (a 0)), (1, .int t)] := hl
  have hinX2 : ∀ w ∈ u_ws RX2 TX2 15, w ∈ wsX2_hold := fun w h => List.mem_cons_of_mem _ (List.mem_append_right _ h)
  have k9 := hts (.fieldLink RX2 9 "PuppetBar" "lengths" "[J") (by decide +kernel)
  have k23 := hts (.fieldLink RX2 23 "PuppetBar" "lows" "[J") (by decide +kernel)
  have k26 := hts (.fieldLink RX2 26 "PuppetBar" "highs" "[J") (by decide +kernel)
  refine lv_aload_n hx hb dX2_hold_0 rfl (lv_at hl 0 rfl) ?_
  refine lv_iload_n hx hb dX2_hold_1 rfl (lv_at hl 1 rfl) ?_
  refine lv_aload_n hx hb dX2_hold_2 rfl (lv_at hl 0 rfl) ?_
  refine va_get (D := D) (ci := 1) (C := RX2) (T := TX2) (N := 15) hx hb hts hinX2 hown hK hP 0 rfl rfl 0 (by decide) k9 (fun _ h9 => h9) rfl dX2_hold_3 ?_
  refine lv_iload_n hx hb dX2_hold_6 rfl (lv_at hl 1 rfl) ?_
  refine va_lald hx hb hK hP 1 1 rfl rfl h_t dX2_hold_7 ?_
  refine lv_aload_n hx hb dX2_hold_8 rfl (lv_at hl 0 rfl) ?_
  refine va_get (D := D) (ci := 1) (C := RX2) (T := TX2) (N := 15) hx hb hts hinX2 hown hK hP 0 rfl rfl 4 (by decide) k23 (fun _ h9 => h9) rfl dX2_hold_9 ?_
  refine lv_iload_n hx hb dX2_hold_12 rfl (lv_at hl 1 rfl) ?_
  refine va_lald hx hb hK hP 5 1 rfl rfl h_t dX2_hold_13 ?_
  refine cl_Pl (c_X1_greater l _ _) ⟨hx, hb, hml, hown, hts⟩ (va_cwS 2 hts gX2_hold_X1_greater rfl rfl rfl (by decide +kernel) ⟨Nat.le_of_ble_eq_true rfl, Nat.le_of_ble_eq_true rfl⟩) rfl hl.1 rfl (Nat.le_of_ble_eq_true rfl) (Nat.zero_le _) (Nat.zero_le _) dX2_hold_14 ?_
  refine lv_aload_n hx hb dX2_hold_17 rfl (lv_at hl 0 rfl) ?_
  refine va_get (D := D) (ci := 1) (C := RX2) (T := TX2) (N := 15) hx hb hts hinX2 hown hK hP 0 rfl rfl 5 (by decide) k26 (fun _ h9 => h9) rfl dX2_hold_18 ?_
  refine lv_iload_n hx hb dX2_hold_21 rfl (lv_at hl 1 rfl) ?_
  refine va_lald hx hb hK hP 6 1 rfl rfl h_t dX2_hold_22 ?_
  refine cl_Pl (c_X1_lesser l _ _) ⟨hx, hb, hml, hown, hts⟩ (va_cwS 2 hts gX2_hold_X1_lesser rfl rfl rfl (by decide +kernel) ⟨Nat.le_of_ble_eq_true rfl, Nat.le_of_ble_eq_true rfl⟩) rfl hl.1 rfl (Nat.le_of_ble_eq_true rfl) (Nat.zero_le _) (Nat.zero_le _) dX2_hold_23 ?_
  refine cl_V (c_X2_changeLength l D K a _ _ _ h_t) ⟨hx, hb, hml, hown, hts⟩ (cwV 2 hts gX2_hold_X2_changeLength rfl rfl rfl (by decide +kernel) ⟨Nat.le_of_ble_eq_true rfl, Nat.le_of_ble_eq_true rfl⟩) hK hP hD hS hA rfl rfl rfl rfl hl.1 rfl (Nat.le_of_ble_eq_true rfl) (Nat.zero_le _) (Nat.zero_le _) dX2_hold_26 (fun H locs hP hD hS => ?_)
  obtain ⟨s1, es1⟩ : ∃ zz : SB, f_X2_changeLength s t (f_X1_lesser (f_X1_greater ((gB_L s) t.toNatClampNeg) ((gB_LO s) t.toNatClampNeg)) ((gB_HI s) t.toNatClampNeg)) = zz := ⟨_, rfl⟩
  rw [es1] at hP hD
  subst es1
  exact rt_V (s1 := _) hx hb hr hlk hK hP hD hS (Eq.symm (rfl)) dX2_hold_29

def f_X2_gather (s : SB) (t : Int32) : SB := pB_tu (pB_co (pB_we (pB_ti s (f_X1_greater (gB_ti s) (f_X1_amount ((gB_L s) t.toNatClampNeg)))) (f_X1_shortLesser (gB_we s) (f_X1_shortAmount ((gB_P s) t.toNatClampNeg)))) (if (gB_co s) < (if 0 ≤ ((gB_K s) t.toNatClampNeg) then ((gB_K s) t.toNatClampNeg) else 0 - ((gB_K s) t.toNatClampNeg)) then (if 0 ≤ ((gB_K s) t.toNatClampNeg) then ((gB_K s) t.toNatClampNeg) else 0 - ((gB_K s) t.toNatClampNeg)) else (gB_co s))) (if (if 0 < ((gB_T s) t.toNatClampNeg) then ((gB_T s) t.toNatClampNeg) else -((gB_T s) t.toNatClampNeg)) < (gB_tu s) then (if 0 < ((gB_T s) t.toNatClampNeg) then ((gB_T s) t.toNatClampNeg) else -((gB_T s) t.toNatClampNeg)) else (gB_tu s))
set_option maxHeartbeats 4000000 in
set_option maxRecDepth 100000 in
theorem c_X2_gather (l : Launch) (D : va_G) (K : ClassId × ClassId × ClassId) (a : Nat → Nat) (s : SB) (t : Int32) (h_t : vp_in t 8)  : MetV l yX2_gather wsX2_gather { frames := 2, cells := 0, slots := 0, locals := 44 } D vwCl (tyK K) (wB K a) [.ref (a 0), .int t] s (f_X2_gather s t) := by
  intro sz0
  refine en_W (cc := cX2_gather) (maxL := 2) (ret := none) (Qc := fun A => va_Qv (fun u0 : SB => u0 = f_X2_gather s t) (bs_a D vwCl (tyK K) (wB K a) A) A) (by decide) rfl (Nat.le_of_ble_eq_true rfl) ?_ sz0
  intro p e st m below meth c ls A hx hb hr hml hts hown hlk hA hK hP hD hS hl
  have hown : st.vm.findClass RX2 = some m.cls := hown
  have hl : lv_has ls 2 [(0, .ref (a 0)), (1, .int t)] := hl
  have hinX2 : ∀ w ∈ u_ws RX2 TX2 15, w ∈ wsX2_gather := fun w h => List.mem_cons_of_mem _ (List.mem_append_right _ h)
  have k33 := hts (.fieldLink RX2 33 "PuppetBar" "tilt" "J") (by decide +kernel)
  have k9 := hts (.fieldLink RX2 9 "PuppetBar" "lengths" "[J") (by decide +kernel)
  have k37 := hts (.fieldLink RX2 37 "PuppetBar" "weight" "I") (by decide +kernel)
  have k13 := hts (.fieldLink RX2 13 "PuppetBar" "pulls" "[I") (by decide +kernel)
  have k41 := hts (.fieldLink RX2 41 "PuppetBar" "count" "I") (by decide +kernel)
  have k17 := hts (.fieldLink RX2 17 "PuppetBar" "knots" "[I") (by decide +kernel)
  have k199 := hts (.methodLink RX2 199 Lib.Math.abs.name) (by decide +kernel)
  have sabs := hts (.static Lib.Math.abs.name) (by decide +kernel)
  have kini := hts (.initialized "java/lang/Math") (by decide +kernel)
  have dabs := hts (.code Lib.Math.abs.name Lib.Math.abs.code 1 (some .int)) (by decide +kernel)
  have k219 := hts (.methodLink RX2 219 Lib.Math.max.name) (by decide +kernel)
  have smax := hts (.static Lib.Math.max.name) (by decide +kernel)
  have dmax := hts (.code Lib.Math.max.name Lib.Math.max.code 2 (some .int)) (by decide +kernel)
  have k44 := hts (.fieldLink RX2 44 "PuppetBar" "turn" "J") (by decide +kernel)
  have k20 := hts (.fieldLink RX2 20 "PuppetBar" "twists" "[J") (by decide +kernel)
  have k207 := hts (.methodLink RX2 207 Lib.MathLoose.abs_long.x) (by decide +kernel)
  have sabs_long := hts (.static Lib.MathLoose.abs_long.x) (by decide +kernel)
  have dabs_long := hts (.code Lib.MathLoose.abs_long.x Lib.MathLoose.abs_long.code 2 (some .long)) (by decide +kernel)
  have k233 := hts (.methodLink RX2 233 Lib.MathLoose.min_long.x) (by decide +kernel)
  have smin_long := hts (.static Lib.MathLoose.min_long.x) (by decide +kernel)
  have dmin_long := hts (.code Lib.MathLoose.min_long.x Lib.MathLoose.min_long.code 4 (some .long)) (by decide +kernel)
  refine lv_aload_n hx hb dX2_gather_0 rfl (lv_at hl 0 rfl) ?_
  refine lv_aload_n hx hb dX2_gather_1 rfl (lv_at hl 0 rfl) ?_
  refine va_get (D := D) (ci := 1) (C := RX2) (T := TX2) (N := 15) hx hb hts hinX2 hown hK hP 0 rfl rfl 7 (by decide) k33 (fun _ h9 => h9) rfl dX2_gather_2 ?_
  refine lv_aload_n hx hb dX2_gather_5 rfl (lv_at hl 0 rfl) ?_
  refine va_get (D := D) (ci := 1) (C := RX2) (T := TX2) (N := 15) hx hb hts hinX2 hown hK hP 0 rfl rfl 0 (by decide) k9 (fun _ h9 => h9) rfl dX2_gather_6 ?_
  refine lv_iload_n hx hb dX2_gather_9 rfl (lv_at hl 1 rfl) ?_
  refine va_lald hx hb hK hP 1 1 rfl rfl h_t dX2_gather_10 ?_
  refine cl_Pl (c_X1_amount l _) ⟨hx, hb, hml, hown, hts⟩ (va_cwS 1 hts gX2_gather_X1_amount rfl rfl rfl (by decide +kernel) ⟨Nat.le_of_ble_eq_true rfl, Nat.le_of_ble_eq_true rfl⟩) rfl hl.1 rfl (Nat.le_of_ble_eq_true rfl) (Nat.zero_le _) (Nat.zero_le _) dX2_gather_11 ?_
  refine cl_Pl (c_X1_greater l _ _) ⟨hx, hb, hml, hown, hts⟩ (va_cwS 2 hts gX2_gather_X1_greater rfl rfl rfl (by decide +kernel) ⟨Nat.le_of_ble_eq_true rfl, Nat.le_of_ble_eq_true rfl⟩) rfl hl.1 rfl (Nat.le_of_ble_eq_true rfl) (Nat.zero_le _) (Nat.zero_le _) dX2_gather_14 ?_
  refine va_put (D := D) (ci := 1) (ty := .long) (C := RX2) (T := TX2) (N := 15) hx hb hts hinX2 tyX2 tyX2_ok nmX2 hown hK hP hD hS 0 rfl rfl 7 (by decide) k33 (fun _ h9 => h9) rfl (by decide +kernel) rfl rfl (Nat.le_of_ble_eq_true rfl) dX2_gather_17 (fun H locs hP hD hS => ?_)
  have hP : va_P D vwCl (wB K a (pB_ti s (f_X1_greater (gB_ti s) (f_X1_amount ((gB_L s) t.toNatClampNeg))))) H := hP
  have hD : va_D A (wB K a (pB_ti s (f_X1_greater (gB_ti s) (f_X1_amount ((gB_L s) t.toNatClampNeg))))) := hD
  refine lv_aload_n hx hb dX2_gather_20 rfl (lv_at hl 0 rfl) ?_
  refine lv_aload_n hx hb dX2_gather_21 rfl (lv_at hl 0 rfl) ?_
  refine va_get (D := D) (ci := 1) (C := RX2) (T := TX2) (N := 15) hx hb hts hinX2 hown hK hP 0 rfl rfl 8 (by decide) k37 (fun _ h9 => h9) rfl dX2_gather_22 ?_
  refine lv_aload_n hx hb dX2_gather_25 rfl (lv_at hl 0 rfl) ?_
  refine va_get (D := D) (ci := 1) (C := RX2) (T := TX2) (N := 15) hx hb hts hinX2 hown hK hP 0 rfl rfl 1 (by decide) k13 (fun _ h9 => h9) rfl dX2_gather_26 ?_
  refine lv_iload_n hx hb dX2_gather_29 rfl (lv_at hl 1 rfl) ?_
  refine va_iald hx hb hK hP 2 0 rfl rfl h_t dX2_gather_30 ?_
  refine cl_Pi (c_X1_shortAmount l _) ⟨hx, hb, hml, hown, hts⟩ (va_cwS 1 hts gX2_gather_X1_shortAmount rfl rfl rfl (by decide +kernel) ⟨Nat.le_of_ble_eq_true rfl, Nat.le_of_ble_eq_true rfl⟩) rfl hl.1 rfl (Nat.le_of_ble_eq_true rfl) (Nat.zero_le _) (Nat.zero_le _) dX2_gather_31 ?_
  refine cl_Pi (c_X1_shortLesser l _ _) ⟨hx, hb, hml, hown, hts⟩ (va_cwS 2 hts gX2_gather_X1_shortLesser rfl rfl rfl (by decide +kernel) ⟨Nat.le_of_ble_eq_true rfl, Nat.le_of_ble_eq_true rfl⟩) rfl hl.1 rfl (Nat.le_of_ble_eq_true rfl) (Nat.zero_le _) (Nat.zero_le _) dX2_gather_34 ?_
  refine va_put (D := D) (ci := 1) (ty := .int) (C := RX2) (T := TX2) (N := 15) hx hb hts hinX2 tyX2 tyX2_ok nmX2 hown hK hP hD hS 0 rfl rfl 8 (by decide) k37 (fun _ h9 => h9) rfl (by decide +kernel) rfl rfl (Nat.le_of_ble_eq_true rfl) dX2_gather_37 (fun H locs hP hD hS => ?_)
  have hP : va_P D vwCl (wB K a (pB_we (pB_ti s (f_X1_greater (gB_ti s) (f_X1_amount ((gB_L s) t.toNatClampNeg)))) (f_X1_shortLesser (gB_we s) (f_X1_shortAmount ((gB_P s) t.toNatClampNeg))))) H := hP
  have hD : va_D A (wB K a (pB_we (pB_ti s (f_X1_greater (gB_ti s) (f_X1_amount ((gB_L s) t.toNatClampNeg)))) (f_X1_shortLesser (gB_we s) (f_X1_shortAmount ((gB_P s) t.toNatClampNeg))))) := hD
  refine lv_aload_n hx hb dX2_gather_40 rfl (lv_at hl 0 rfl) ?_
  refine lv_aload_n hx hb dX2_gather_41 rfl (lv_at hl 0 rfl) ?_
  refine va_get (D := D) (ci := 1) (C := RX2) (T := TX2) (N := 15) hx hb hts hinX2 hown hK hP 0 rfl rfl 9 (by decide) k41 (fun _ h9 => h9) rfl dX2_gather_42 ?_
  refine lv_aload_n hx hb dX2_gather_45 rfl (lv_at hl 0 rfl) ?_
  refine va_get (D := D) (ci := 1) (C := RX2) (T := TX2) (N := 15) hx hb hts hinX2 hown hK hP 0 rfl rfl 2 (by decide) k17 (fun _ h9 => h9) rfl dX2_gather_46 ?_
  refine lv_iload_n hx hb dX2_gather_49 rfl (lv_at hl 1 rfl) ?_
  refine va_iald hx hb hK hP 3 0 rfl rfl h_t dX2_gather_50 ?_
  refine va_mabs hx hb (hml.trans hl.1.symm) hown k199 sabs kini dabs (Nat.le_of_ble_eq_true rfl) (Nat.le_of_ble_eq_true rfl) (Nat.zero_le _) (Nat.zero_le _) dX2_gather_51 ?_
  refine va_mmax hx hb (hml.trans hl.1.symm) hown k219 smax kini dmax (Nat.le_of_ble_eq_true rfl) (Nat.le_of_ble_eq_true rfl) (Nat.zero_le _) (Nat.zero_le _) dX2_gather_54 ?_
  refine va_put (D := D) (ci := 1) (ty := .int) (C := RX2) (T := TX2) (N := 15) hx hb hts hinX2 tyX2 tyX2_ok nmX2 hown hK hP hD hS 0 rfl rfl 9 (by decide) k41 (fun _ h9 => h9) rfl (by decide +kernel) rfl rfl (Nat.le_of_ble_eq_true rfl) dX2_gather_57 (fun H locs hP hD hS => ?_)
  have hP : va_P D vwCl (wB K a (pB_co (pB_we (pB_ti s (f_X1_greater (gB_ti s) (f_X1_amount ((gB_L s) t.toNatClampNeg)))) (f_X1_shortLesser (gB_we s) (f_X1_shortAmount ((gB_P s) t.toNatClampNeg)))) (if (gB_co s) < (if 0 ≤ ((gB_K s) t.toNatClampNeg) then ((gB_K s) t.toNatClampNeg) else 0 - ((gB_K s) t.toNatClampNeg)) then (if 0 ≤ ((gB_K s) t.toNatClampNeg) then ((gB_K s) t.toNatClampNeg) else 0 - ((gB_K s) t.toNatClampNeg)) else (gB_co s)))) H := hP
  have hD : va_D A (wB K a (pB_co (pB_we (pB_ti s (f_X1_greater (gB_ti s) (f_X1_amount ((gB_L s) t.toNatClampNeg)))) (f_X1_shortLesser (gB_we s) (f_X1_shortAmount ((gB_P s) t.toNatClampNeg)))) (if (gB_co s) < (if 0 ≤ ((gB_K s) t.toNatClampNeg) then ((gB_K s) t.toNatClampNeg) else 0 - ((gB_K s) t.toNatClampNeg)) then (if 0 ≤ ((gB_K s) t.toNatClampNeg) then ((gB_K s) t.toNatClampNeg) else 0 - ((gB_K s) t.toNatClampNeg)) else (gB_co s)))) := hD
  refine lv_aload_n hx hb dX2_gather_60 rfl (lv_at hl 0 rfl) ?_
  refine lv_aload_n hx hb dX2_gather_61 rfl (lv_at hl 0 rfl) ?_
  refine va_get (D := D) (ci := 1) (C := RX2) (T := TX2) (N := 15) hx hb hts hinX2 hown hK hP 0 rfl rfl 10 (by decide) k44 (fun _ h9 => h9) rfl dX2_gather_62 ?_
  refine lv_aload_n hx hb dX2_gather_65 rfl (lv_at hl 0 rfl) ?_
  refine va_get (D := D) (ci := 1) (C := RX2) (T := TX2) (N := 15) hx hb hts hinX2 hown hK hP 0 rfl rfl 3 (by decide) k20 (fun _ h9 => h9) rfl dX2_gather_66 ?_
  refine lv_iload_n hx hb dX2_gather_69 rfl (lv_at hl 1 rfl) ?_
  refine va_lald hx hb hK hP 4 1 rfl rfl h_t dX2_gather_70 ?_
  refine va_mabs_long hx hb (hml.trans hl.1.symm) hown k207 sabs_long kini dabs_long (Nat.le_of_ble_eq_true rfl) (Nat.le_of_ble_eq_true rfl) (Nat.zero_le _) (Nat.zero_le _) dX2_gather_71 ?_
  refine va_mmin_long hx hb (hml.trans hl.1.symm) hown k233 smin_long kini dmin_long (Nat.le_of_ble_eq_true rfl) (Nat.le_of_ble_eq_true rfl) (Nat.zero_le _) (Nat.zero_le _) dX2_gather_74 ?_
  refine va_put (D := D) (ci := 1) (ty := .long) (C := RX2) (T := TX2) (N := 15) hx hb hts hinX2 tyX2 tyX2_ok nmX2 hown hK hP hD hS 0 rfl rfl 10 (by decide) k44 (fun _ h9 => h9) rfl (by decide +kernel) rfl rfl (Nat.le_of_ble_eq_true rfl) dX2_gather_77 (fun H locs hP hD hS => ?_)
  have hP : va_P D vwCl (wB K a (pB_tu (pB_co (pB_we (pB_ti s (f_X1_greater (gB_ti s) (f_X1_amount ((gB_L s) t.toNatClampNeg)))) (f_X1_shortLesser (gB_we s) (f_X1_shortAmount ((gB_P s) t.toNatClampNeg)))) (if (gB_co s) < (if 0 ≤ ((gB_K s) t.toNatClampNeg) then ((gB_K s) t.toNatClampNeg) else 0 - ((gB_K s) t.toNatClampNeg)) then (if 0 ≤ ((gB_K s) t.toNatClampNeg) then ((gB_K s) t.toNatClampNeg) else 0 - ((gB_K s) t.toNatClampNeg)) else (gB_co s))) (if (if 0 < ((gB_T s) t.toNatClampNeg) then ((gB_T s) t.toNatClampNeg) else -((gB_T s) t.toNatClampNeg)) < (gB_tu s) then (if 0 < ((gB_T s) t.toNatClampNeg) then ((gB_T s) t.toNatClampNeg) else -((gB_T s) t.toNatClampNeg)) else (gB_tu s)))) H := hP
  have hD : va_D A (wB K a (pB_tu (pB_co (pB_we (pB_ti s (f_X1_greater (gB_ti s) (f_X1_amount ((gB_L s) t.toNatClampNeg)))) (f_X1_shortLesser (gB_we s) (f_X1_shortAmount ((gB_P s) t.toNatClampNeg)))) (if (gB_co s) < (if 0 ≤ ((gB_K s) t.toNatClampNeg) then ((gB_K s) t.toNatClampNeg) else 0 - ((gB_K s) t.toNatClampNeg)) then (if 0 ≤ ((gB_K s) t.toNatClampNeg) then ((gB_K s) t.toNatClampNeg) else 0 - ((gB_K s) t.toNatClampNeg)) else (gB_co s))) (if (if 0 < ((gB_T s) t.toNatClampNeg) then ((gB_T s) t.toNatClampNeg) else -((gB_T s) t.toNatClampNeg)) < (gB_tu s) then (if 0 < ((gB_T s) t.toNatClampNeg) then ((gB_T s) t.toNatClampNeg) else -((gB_T s) t.toNatClampNeg)) else (gB_tu s)))) := hD
  exact rt_V (s1 := _) hx hb hr hlk hK hP hD hS (Eq.symm (rfl)) dX2_gather_80

def f_X2_climb (s : SB) (t : Int32) : SB := if (f_X1_amount ((gB_L s) t.toNatClampNeg)) = 0 then (if (f_X1_shortAmount ((gB_P s) t.toNatClampNeg)) = 0 then (s) else (if 0 ≤ ((gB_P s) t.toNatClampNeg) then (let s1 := f_X2_changeTwist s t (((gB_T s) t.toNatClampNeg) + 1); s1) else (let s2 := f_X2_changeTwist s t (((gB_T s) t.toNatClampNeg) - 1); s2))) else (if 0 ≤ ((gB_L s) t.toNatClampNeg) then (let s3 := f_X2_changeKnots s t (((gB_K s) t.toNatClampNeg) + 1); if (f_X1_shortAmount ((gB_P s3) t.toNatClampNeg)) = 0 then (s3) else (if 0 ≤ ((gB_P s3) t.toNatClampNeg) then (let s4 := f_X2_changeTwist s3 t (((gB_T s3) t.toNatClampNeg) + 1); s4) else (let s5 := f_X2_changeTwist s3 t (((gB_T s3) t.toNatClampNeg) - 1); s5))) else (let s6 := f_X2_changeKnots s t (((gB_K s) t.toNatClampNeg) - 1); if (f_X1_shortAmount ((gB_P s6) t.toNatClampNeg)) = 0 then (s6) else (if 0 ≤ ((gB_P s6) t.toNatClampNeg) then (let s7 := f_X2_changeTwist s6 t (((gB_T s6) t.toNatClampNeg) + 1); s7) else (let s8 := f_X2_changeTwist s6 t (((gB_T s6) t.toNatClampNeg) - 1); s8))))
set_option maxHeartbeats 4000000 in
set_option maxRecDepth 100000 in
theorem c_X2_climb (l : Launch) (D : va_G) (K : ClassId × ClassId × ClassId) (a : Nat → Nat) (s : SB) (t : Int32) (h_t : vp_in t 8)  : MetV l yX2_climb wsX2_climb { frames := 1, cells := 0, slots := 0, locals := 23 } D vwCl (tyK K) (wB K a) [.ref (a 0), .int t] s (f_X2_climb s t) := by
  intro sz0
  refine en_W (cc := cX2_climb) (maxL := 2) (ret := none) (Qc := fun A => va_Qv (fun u0 : SB => u0 = f_X2_climb s t) (bs_a D vwCl (tyK K) (wB K a) A) A) (by decide) rfl (Nat.le_of_ble_eq_true rfl) ?_ sz0
  intro p e st m below meth c ls A hx hb hr hml hts hown hlk hA hK hP hD hS hl
  have hown : st.vm.findClass RX2 = some m.cls := hown
  have hl : lv_has ls 2 [(0, .ref (a 0)), (1, .int t)] := hl
  have hinX2 : ∀ w ∈ u_ws RX2 TX2 15, w ∈ wsX2_climb := fun w h => List.mem_cons_of_mem _ (List.mem_append_right _ h)
  have k9 := hts (.fieldLink RX2 9 "PuppetBar" "lengths" "[J") (by decide +kernel)
  have k13 := hts (.fieldLink RX2 13 "PuppetBar" "pulls" "[I") (by decide +kernel)
  have k20 := hts (.fieldLink RX2 20 "PuppetBar" "twists" "[J") (by decide +kernel)
  have k17 := hts (.fieldLink RX2 17 "PuppetBar" "knots" "[I") (by decide +kernel)
  refine lv_aload_n hx hb dX2_climb_0 rfl (lv_at hl 0 rfl) ?_
  refine va_get (D := D) (ci := 1) (C := RX2) (T := TX2) (N := 15) hx hb hts hinX2 hown hK hP 0 rfl rfl 0 (by decide) k9 (fun _ h9 => h9) rfl dX2_climb_1 ?_
  refine lv_iload_n hx hb dX2_climb_4 rfl (lv_at hl 1 rfl) ?_
  refine va_lald hx hb hK hP 1 1 rfl rfl h_t dX2_climb_5 ?_
  refine cl_Pl (c_X1_amount l _) ⟨hx, hb, hml, hown, hts⟩ (va_cwS 1 hts gX2_climb_X1_amount rfl rfl rfl (by decide +kernel) ⟨Nat.le_of_ble_eq_true rfl, Nat.le_of_ble_eq_true rfl⟩) rfl hl.1 rfl (Nat.le_of_ble_eq_true rfl) (Nat.zero_le _) (Nat.zero_le _) dX2_climb_6 ?_
  refine lv_lconst (v := 0) hx hb dX2_climb_9 (by decide) ?_
  refine W.lcmp hx hb dX2_climb_10 ?_
  refine lv_if_eq (tgt := 49) hx hb dX2_climb_11 (by decide) (fun c_11 => ?_) (fun c_11 => ?_)
  · have c_11 := (lg_cmp_eq _ _).mp c_11
    refine lv_aload_n hx hb dX2_climb_49 rfl (lv_at hl 0 rfl) ?_
    refine va_get (D := D) (ci := 1) (C := RX2) (T := TX2) (N := 15) hx hb hts hinX2 hown hK hP 0 rfl rfl 1 (by decide) k13 (fun _ h9 => h9) rfl dX2_climb_50 ?_
    refine lv_iload_n hx hb dX2_climb_53 rfl (lv_at hl 1 rfl) ?_
    refine va_iald hx hb hK hP 2 0 rfl rfl h_t dX2_climb_54 ?_
    refine cl_Pi (c_X1_shortAmount l _) ⟨hx, hb, hml, hown, hts⟩ (va_cwS 1 hts gX2_climb_X1_shortAmount rfl rfl rfl (by decide +kernel) ⟨Nat.le_of_ble_eq_true rfl, Nat.le_of_ble_eq_true rfl⟩) rfl hl.1 rfl (Nat.le_of_ble_eq_true rfl) (Nat.zero_le _) (Nat.zero_le _) dX2_climb_55 ?_
    refine lv_if_eq (tgt := 94) hx hb dX2_climb_58 (by decide) (fun c_58 => ?_) (fun c_58 => ?_)
    · exact rt_V (s1 := _) hx hb hr hlk hK hP hD hS (Eq.symm (Eq.trans (if_pos c_11) (Eq.trans (if_pos c_58) (rfl)))) dX2_climb_94
    · refine lv_aload_n hx hb dX2_climb_61 rfl (lv_at hl 0 rfl) ?_
      refine lv_iload_n hx hb dX2_climb_62 rfl (lv_at hl 1 rfl) ?_
      refine lv_aload_n hx hb dX2_climb_63 rfl (lv_at hl 0 rfl) ?_
      refine va_get (D := D) (ci := 1) (C := RX2) (T := TX2) (N := 15) hx hb hts hinX2 hown hK hP 0 rfl rfl 1 (by decide) k13 (fun _ h9 => h9) rfl dX2_climb_64 ?_
      refine lv_iload_n hx hb dX2_climb_67 rfl (lv_at hl 1 rfl) ?_
      refine va_iald hx hb hK hP 2 0 rfl rfl h_t dX2_climb_68 ?_
      refine lv_if_ge (tgt := 83) hx hb dX2_climb_69 (by decide) (fun c_69 => ?_) (fun c_69 => ?_)
      · refine lv_aload_n hx hb dX2_climb_83 rfl (lv_at hl 0 rfl) ?_
        refine va_get (D := D) (ci := 1) (C := RX2) (T := TX2) (N := 15) hx hb hts hinX2 hown hK hP 0 rfl rfl 3 (by decide) k20 (fun _ h9 => h9) rfl dX2_climb_84 ?_
        refine lv_iload_n hx hb dX2_climb_87 rfl (lv_at hl 1 rfl) ?_
        refine va_lald hx hb hK hP 4 1 rfl rfl h_t dX2_climb_88 ?_
        refine lv_lconst (v := 1) hx hb dX2_climb_89 (by decide) ?_
        refine lv_ladd hx hb dX2_climb_90 ?_
        refine cl_V (c_X2_changeTwist l D K a _ _ _ h_t) ⟨hx, hb, hml, hown, hts⟩ (cwV 2 hts gX2_climb_X2_changeTwist rfl rfl rfl (by decide +kernel) ⟨Nat.le_of_ble_eq_true rfl, Nat.le_of_ble_eq_true rfl⟩) hK hP hD hS hA rfl rfl rfl rfl hl.1 rfl (Nat.le_of_ble_eq_true rfl) (Nat.zero_le _) (Nat.zero_le _) dX2_climb_91 (fun H locs hP hD hS => ?_)
        obtain ⟨s1, es1⟩ : ∃ zz : SB, f_X2_changeTwist s t (((gB_T s) t.toNatClampNeg) + 1) = zz := ⟨_, rfl⟩
        rw [es1] at hP hD
        subst es1
        exact rt_V (s1 := _) hx hb hr hlk hK hP hD hS (Eq.symm (Eq.trans (if_pos c_11) (Eq.trans (if_neg c_58) (Eq.trans (if_pos c_69) (rfl))))) dX2_climb_94
      · refine lv_aload_n hx hb dX2_climb_72 rfl (lv_at hl 0 rfl) ?_
        refine va_get (D := D) (ci := 1) (C := RX2) (T := TX2) (N := 15) hx hb hts hinX2 hown hK hP 0 rfl rfl 3 (by decide) k20 (fun _ h9 => h9) rfl dX2_climb_73 ?_
        refine lv_iload_n hx hb dX2_climb_76 rfl (lv_at hl 1 rfl) ?_
        refine va_lald hx hb hK hP 4 1 rfl rfl h_t dX2_climb_77 ?_
        refine lv_lconst (v := 1) hx hb dX2_climb_78 (by decide) ?_
        refine lv_lsub hx hb dX2_climb_79 ?_
        refine lv_goto (tgt := 91) hx hb dX2_climb_80 (by decide) ?_
        refine cl_V (c_X2_changeTwist l D K a _ _ _ h_t) ⟨hx, hb, hml, hown, hts⟩ (cwV 2 hts gX2_climb_X2_changeTwist rfl rfl rfl (by decide +kernel) ⟨Nat.le_of_ble_eq_true rfl, Nat.le_of_ble_eq_true rfl⟩) hK hP hD hS hA rfl rfl rfl rfl hl.1 rfl (Nat.le_of_ble_eq_true rfl) (Nat.zero_le _) (Nat.zero_le _) dX2_climb_91 (fun H locs hP hD hS => ?_)
        obtain ⟨s2, es2⟩ : ∃ zz : SB, f_X2_changeTwist s t (((gB_T s) t.toNatClampNeg) - 1) = zz := ⟨_, rfl⟩
        rw [es2] at hP hD
        subst es2
        exact rt_V (s1 := _) hx hb hr hlk hK hP hD hS (Eq.symm (Eq.trans (if_pos c_11) (Eq.trans (if_neg c_58) (Eq.trans (if_neg c_69) (rfl))))) dX2_climb_94
  · have c_11 := mt (lg_cmp_eq _ _).mpr c_11
    refine lv_aload_n hx hb dX2_climb_14 rfl (lv_at hl 0 rfl) ?_
    refine lv_iload_n hx hb dX2_climb_15 rfl (lv_at hl 1 rfl) ?_
    refine lv_aload_n hx hb dX2_climb_16 rfl (lv_at hl 0 rfl) ?_
    refine va_get (D := D) (ci := 1) (C := RX2) (T := TX2) (N := 15) hx hb hts hinX2 hown hK hP 0 rfl rfl 0 (by decide) k9 (fun _ h9 => h9) rfl dX2_climb_17 ?_
    refine lv_iload_n hx hb dX2_climb_20 rfl (lv_at hl 1 rfl) ?_
    refine va_lald hx hb hK hP 1 1 rfl rfl h_t dX2_climb_21 ?_
    refine lv_lconst (v := 0) hx hb dX2_climb_22 (by decide) ?_
    refine W.lcmp hx hb dX2_climb_23 ?_
    refine lv_if_ge (tgt := 38) hx hb dX2_climb_24 (by decide) (fun c_24 => ?_) (fun c_24 => ?_)
    · have c_24 := (lg_cmp_ge _ _).mp c_24
      refine lv_aload_n hx hb dX2_climb_38 rfl (lv_at hl 0 rfl) ?_
      refine va_get (D := D) (ci := 1) (C := RX2) (T := TX2) (N := 15) hx hb hts hinX2 hown hK hP 0 rfl rfl 2 (by decide) k17 (fun _ h9 => h9) rfl dX2_climb_39 ?_
      refine lv_iload_n hx hb dX2_climb_42 rfl (lv_at hl 1 rfl) ?_
      refine va_iald hx hb hK hP 3 0 rfl rfl h_t dX2_climb_43 ?_
      refine lv_iconst (v := 1) hx hb dX2_climb_44 (by decide) ?_
      refine lv_iadd hx hb dX2_climb_45 ?_
      refine cl_V (c_X2_changeKnots l D K a _ _ _ h_t) ⟨hx, hb, hml, hown, hts⟩ (cwV 2 hts gX2_climb_X2_changeKnots rfl rfl rfl (by decide +kernel) ⟨Nat.le_of_ble_eq_true rfl, Nat.le_of_ble_eq_true rfl⟩) hK hP hD hS hA rfl rfl rfl rfl hl.1 rfl (Nat.le_of_ble_eq_true rfl) (Nat.zero_le _) (Nat.zero_le _) dX2_climb_46 (fun H locs hP hD hS => ?_)
      obtain ⟨s3, es3⟩ : ∃ zz : SB, f_X2_changeKnots s t (((gB_K s) t.toNatClampNeg) + 1) = zz := ⟨_, rfl⟩
      rw [es3] at hP hD
      refine lv_aload_n hx hb dX2_climb_49 rfl (lv_at hl 0 rfl) ?_
      refine va_get (D := D) (ci := 1) (C := RX2) (T := TX2) (N := 15) hx hb hts hinX2 hown hK hP 0 rfl rfl 1 (by decide) k13 (fun _ h9 => h9) rfl dX2_climb_50 ?_
      refine lv_iload_n hx hb dX2_climb_53 rfl (lv_at hl 1 rfl) ?_
      refine va_iald hx hb hK hP 2 0 rfl rfl h_t dX2_climb_54 ?_
      refine cl_Pi (c_X1_shortAmount l _) ⟨hx, hb, hml, hown, hts⟩ (va_cwS 1 hts gX2_climb_X1_shortAmount rfl rfl rfl (by decide +kernel) ⟨Nat.le_of_ble_eq_true rfl, Nat.le_of_ble_eq_true rfl⟩) rfl hl.1 rfl (Nat.le_of_ble_eq_true rfl) (Nat.zero_le _) (Nat.zero_le _) dX2_climb_55 ?_
      refine lv_if_eq (tgt := 94) hx hb dX2_climb_58 (by decide) (fun c_58 => ?_) (fun c_58 => ?_)
      · subst es3
        exact rt_V (s1 := _) hx hb hr hlk hK hP hD hS (Eq.symm (Eq.trans (if_neg c_11) (Eq.trans (if_pos c_24) (Eq.trans (if_pos c_58) (rfl))))) dX2_climb_94
      · refine lv_aload_n hx hb dX2_climb_61 rfl (lv_at hl 0 rfl) ?_
        refine lv_iload_n hx hb dX2_climb_62 rfl (lv_at hl 1 rfl) ?_
        refine lv_aload_n hx hb dX2_climb_63 rfl (lv_at hl 0 rfl) ?_
        refine va_get (D := D) (ci := 1) (C := RX2) (T := TX2) (N := 15) hx hb hts hinX2 hown hK hP 0 rfl rfl 1 (by decide) k13 (fun _ h9 => h9) rfl dX2_climb_64 ?_
        refine lv_iload_n hx hb dX2_climb_67 rfl (lv_at hl 1 rfl) ?_
        refine va_iald hx hb hK hP 2 0 rfl rfl h_t dX2_climb_68 ?_
        refine lv_if_ge (tgt := 83) hx hb dX2_climb_69 (by decide) (fun c_69 => ?_) (fun c_69 => ?_)
        · refine lv_aload_n hx hb dX2_climb_83 rfl (lv_at hl 0 rfl) ?_
          refine va_get (D := D) (ci := 1) (C := RX2) (T := TX2) (N := 15) hx hb hts hinX2 hown hK hP 0 rfl rfl 3 (by decide) k20 (fun _ h9 => h9) rfl dX2_climb_84 ?_
          refine lv_iload_n hx hb dX2_climb_87 rfl (lv_at hl 1 rfl) ?_
          refine va_lald hx hb hK hP 4 1 rfl rfl h_t dX2_climb_88 ?_
          refine lv_lconst (v := 1) hx hb dX2_climb_89 (by decide) ?_
          refine lv_ladd hx hb dX2_climb_90 ?_
          refine cl_V (c_X2_changeTwist l D K a _ _ _ h_t) ⟨hx, hb, hml, hown, hts⟩ (cwV 2 hts gX2_climb_X2_changeTwist rfl rfl rfl (by decide +kernel) ⟨Nat.le_of_ble_eq_true rfl, Nat.le_of_ble_eq_true rfl⟩) hK hP hD hS hA rfl rfl rfl rfl hl.1 rfl (Nat.le_of_ble_eq_true rfl) (Nat.zero_le _) (Nat.zero_le _) dX2_climb_91 (fun H locs hP hD hS => ?_)
          obtain ⟨s4, es4⟩ : ∃ zz : SB, f_X2_changeTwist s3 t (((gB_T s3) t.toNatClampNeg) + 1) = zz := ⟨_, rfl⟩
          rw [es4] at hP hD
          subst es4 es3
          exact rt_V (s1 := _) hx hb hr hlk hK hP hD hS (Eq.symm (Eq.trans (if_neg c_11) (Eq.trans (if_pos c_24) (Eq.trans (if_neg c_58) (Eq.trans (if_pos c_69) (rfl)))))) dX2_climb_94
        · refine lv_aload_n hx hb dX2_climb_72 rfl (lv_at hl 0 rfl) ?_
          refine va_get (D := D) (ci := 1) (C := RX2) (T := TX2) (N := 15) hx hb hts hinX2 hown hK hP 0 rfl rfl 3 (by decide) k20 (fun _ h9 => h9) rfl dX2_climb_73 ?_
          refine lv_iload_n hx hb dX2_climb_76 rfl (lv_at hl 1 rfl) ?_
          refine va_lald hx hb hK hP 4 1 rfl rfl h_t dX2_climb_77 ?_
          refine lv_lconst (v := 1) hx hb dX2_climb_78 (by decide) ?_
          refine lv_lsub hx hb dX2_climb_79 ?_
          refine lv_goto (tgt := 91) hx hb dX2_climb_80 (by decide) ?_
          refine cl_V (c_X2_changeTwist l D K a _ _ _ h_t) ⟨hx, hb, hml, hown, hts⟩ (cwV 2 hts gX2_climb_X2_changeTwist rfl rfl rfl (by decide +kernel) ⟨Nat.le_of_ble_eq_true rfl, Nat.le_of_ble_eq_true rfl⟩) hK hP hD hS hA rfl rfl rfl rfl hl.1 rfl (Nat.le_of_ble_eq_true rfl) (Nat.zero_le _) (Nat.zero_le _) dX2_climb_91 (fun H locs hP hD hS => ?_)
          obtain ⟨s5, es5⟩ : ∃ zz : SB, f_X2_changeTwist s3 t (((gB_T s3) t.toNatClampNeg) - 1) = zz := ⟨_, rfl⟩
          rw [es5] at hP hD
          subst es5 es3
          exact rt_V (s1 := _) hx hb hr hlk hK hP hD hS (Eq.symm (Eq.trans (if_neg c_11) (Eq.trans (if_pos c_24) (Eq.trans (if_neg c_58) (Eq.trans (if_neg c_69) (rfl)))))) dX2_climb_94
    · have c_24 := mt (lg_cmp_ge _ _).mpr c_24
      refine lv_aload_n hx hb dX2_climb_27 rfl (lv_at hl 0 rfl) ?_
      refine va_get (D := D) (ci := 1) (C := RX2) (T := TX2) (N := 15) hx hb hts hinX2 hown hK hP 0 rfl rfl 2 (by decide) k17 (fun _ h9 => h9) rfl dX2_climb_28 ?_
      refine lv_iload_n hx hb dX2_climb_31 rfl (lv_at hl 1 rfl) ?_
      refine va_iald hx hb hK hP 3 0 rfl rfl h_t dX2_climb_32 ?_
      refine lv_iconst (v := 1) hx hb dX2_climb_33 (by decide) ?_
      refine lv_isub hx hb dX2_climb_34 ?_
      refine lv_goto (tgt := 46) hx hb dX2_climb_35 (by decide) ?_
      refine cl_V (c_X2_changeKnots l D K a _ _ _ h_t) ⟨hx, hb, hml, hown, hts⟩ (cwV 2 hts gX2_climb_X2_changeKnots rfl rfl rfl (by decide +kernel) ⟨Nat.le_of_ble_eq_true rfl, Nat.le_of_ble_eq_true rfl⟩) hK hP hD hS hA rfl rfl rfl rfl hl.1 rfl (Nat.le_of_ble_eq_true rfl) (Nat.zero_le _) (Nat.zero_le _) dX2_climb_46 (fun H locs hP hD hS => ?_)
      obtain ⟨s6, es6⟩ : ∃ zz : SB, f_X2_changeKnots s t (((gB_K s) t.toNatClampNeg) - 1) = zz := ⟨_, rfl⟩
      rw [es6] at hP hD
      refine lv_aload_n hx hb dX2_climb_49 rfl (lv_at hl 0 rfl) ?_
      refine va_get (D := D) (ci := 1) (C := RX2) (T := TX2) (N := 15) hx hb hts hinX2 hown hK hP 0 rfl rfl 1 (by decide) k13 (fun _ h9 => h9) rfl dX2_climb_50 ?_
      refine lv_iload_n hx hb dX2_climb_53 rfl (lv_at hl 1 rfl) ?_
      refine va_iald hx hb hK hP 2 0 rfl rfl h_t dX2_climb_54 ?_
      refine cl_Pi (c_X1_shortAmount l _) ⟨hx, hb, hml, hown, hts⟩ (va_cwS 1 hts gX2_climb_X1_shortAmount rfl rfl rfl (by decide +kernel) ⟨Nat.le_of_ble_eq_true rfl, Nat.le_of_ble_eq_true rfl⟩) rfl hl.1 rfl (Nat.le_of_ble_eq_true rfl) (Nat.zero_le _) (Nat.zero_le _) dX2_climb_55 ?_
      refine lv_if_eq (tgt := 94) hx hb dX2_climb_58 (by decide) (fun c_58 => ?_) (fun c_58 => ?_)
      · subst es6
        exact rt_V (s1 := _) hx hb hr hlk hK hP hD hS (Eq.symm (Eq.trans (if_neg c_11) (Eq.trans (if_neg c_24) (Eq.trans (if_pos c_58) (rfl))))) dX2_climb_94
      · refine lv_aload_n hx hb dX2_climb_61 rfl (lv_at hl 0 rfl) ?_
        refine lv_iload_n hx hb dX2_climb_62 rfl (lv_at hl 1 rfl) ?_
        refine lv_aload_n hx hb dX2_climb_63 rfl (lv_at hl 0 rfl) ?_
        refine va_get (D := D) (ci := 1) (C := RX2) (T := TX2) (N := 15) hx hb hts hinX2 hown hK hP 0 rfl rfl 1 (by decide) k13 (fun _ h9 => h9) rfl dX2_climb_64 ?_
        refine lv_iload_n hx hb dX2_climb_67 rfl (lv_at hl 1 rfl) ?_
        refine va_iald hx hb hK hP 2 0 rfl rfl h_t dX2_climb_68 ?_
        refine lv_if_ge (tgt := 83) hx hb dX2_climb_69 (by decide) (fun c_69 => ?_) (fun c_69 => ?_)
        · refine lv_aload_n hx hb dX2_climb_83 rfl (lv_at hl 0 rfl) ?_
          refine va_get (D := D) (ci := 1) (C := RX2) (T := TX2) (N := 15) hx hb hts hinX2 hown hK hP 0 rfl rfl 3 (by decide) k20 (fun _ h9 => h9) rfl dX2_climb_84 ?_
          refine lv_iload_n hx hb dX2_climb_87 rfl (lv_at hl 1 rfl) ?_
          refine va_lald hx hb hK hP 4 1 rfl rfl h_t dX2_climb_88 ?_
          refine lv_lconst (v := 1) hx hb dX2_climb_89 (by decide) ?_
          refine lv_ladd hx hb dX2_climb_90 ?_
          refine cl_V (c_X2_changeTwist l D K a _ _ _ h_t) ⟨hx, hb, hml, hown, hts⟩ (cwV 2 hts gX2_climb_X2_changeTwist rfl rfl rfl (by decide +kernel) ⟨Nat.le_of_ble_eq_true rfl, Nat.le_of_ble_eq_true rfl⟩) hK hP hD hS hA rfl rfl rfl rfl hl.1 rfl (Nat.le_of_ble_eq_true rfl) (Nat.zero_le _) (Nat.zero_le _) dX2_climb_91 (fun H locs hP hD hS => ?_)
          obtain ⟨s7, es7⟩ : ∃ zz : SB, f_X2_changeTwist s6 t (((gB_T s6) t.toNatClampNeg) + 1) = zz := ⟨_, rfl⟩
          rw [es7] at hP hD
          subst es7 es6
          exact rt_V (s1 := _) hx hb hr hlk hK hP hD hS (Eq.symm (Eq.trans (if_neg c_11) (Eq.trans (if_neg c_24) (Eq.trans (if_neg c_58) (Eq.trans (if_pos c_69) (rfl)))))) dX2_climb_94
        · refine lv_aload_n hx hb dX2_climb_72 rfl (lv_at hl 0 rfl) ?_
          refine va_get (D := D) (ci := 1) (C := RX2) (T := TX2) (N := 15) hx hb hts hinX2 hown hK hP 0 rfl rfl 3 (by decide) k20 (fun _ h9 => h9) rfl dX2_climb_73 ?_
          refine lv_iload_n hx hb dX2_climb_76 rfl (lv_at hl 1 rfl) ?_
          refine va_lald hx hb hK hP 4 1 rfl rfl h_t dX2_climb_77 ?_
          refine lv_lconst (v := 1) hx hb dX2_climb_78 (by decide) ?_
          refine lv_lsub hx hb dX2_climb_79 ?_
          refine lv_goto (tgt := 91) hx hb dX2_climb_80 (by decide) ?_
          refine cl_V (c_X2_changeTwist l D K a _ _ _ h_t) ⟨hx, hb, hml, hown, hts⟩ (cwV 2 hts gX2_climb_X2_changeTwist rfl rfl rfl (by decide +kernel) ⟨Nat.le_of_ble_eq_true rfl, Nat.le_of_ble_eq_true rfl⟩) hK hP hD hS hA rfl rfl rfl rfl hl.1 rfl (Nat.le_of_ble_eq_true rfl) (Nat.zero_le _) (Nat.zero_le _) dX2_climb_91 (fun H locs hP hD hS => ?_)
          obtain ⟨s8, es8⟩ : ∃ zz : SB, f_X2_changeTwist s6 t (((gB_T s6) t.toNatClampNeg) - 1) = zz := ⟨_, rfl⟩
          rw [es8] at hP hD
          subst es8 es6
          exact rt_V (s1 := _) hx hb hr hlk hK hP hD hS (Eq.symm (Eq.trans (if_neg c_11) (Eq.trans (if_neg c_24) (Eq.trans (if_neg c_58) (Eq.trans (if_neg c_69) (rfl)))))) dX2_climb_94

def f_X2_halve (s : SB) (t : Int32) : SB := let s1 := f_X2_changeAmounts s t (f_X1_half (f_X1_amount ((gB_L s) t.toNatClampNeg)) 52 9218868437227405312) (f_X1_half (Int32.toInt64 (f_X1_shortAmount ((gB_P s) t.toNatClampNeg))) 23 2139095040); s1
set_option maxHeartbeats 4000000 in
set_option maxRecDepth 100000 in
theorem c_X2_halve (l : Launch) (D : va_G) (K : ClassId × ClassId × ClassId) (a : Nat → Nat) (s : SB) (t : Int32) (h_t : vp_in t 8)  : MetV l yX2_halve wsX2_halve { frames := 2, cells := 0, slots := 0, locals := 48 } D vwCl (tyK K) (wB K a) [.ref (a 0), .int t] s (f_X2_halve s t) := by
  intro sz0
  refine en_W (cc := cX2_halve) (maxL := 2) (ret := none) (Qc := fun A => va_Qv (fun u0 : SB => u0 = f_X2_halve s t) (bs_a D vwCl (tyK K) (wB K a) A) A) (by decide) rfl (Nat.le_of_ble_eq_true rfl) ?_ sz0
  intro p e st m below meth c ls A hx hb hr hml hts hown hlk hA hK hP hD hS hl
  have hown : st.vm.findClass RX2 = some m.cls := hown
  have hl : lv_has ls 2 [(0, .ref (a 0)), (1, .int t)] := hl
  have hinX2 : ∀ w ∈ u_ws RX2 TX2 15, w ∈ wsX2_halve := fun w h => List.mem_cons_of_mem _ (List.mem_append_right _ h)
  have k9 := hts (.fieldLink RX2 9 "PuppetBar" "lengths" "[J") (by decide +kernel)
  have k133 := hts (.constantLong RX2 133 (9218868437227405312)) (by decide +kernel)
  have k13 := hts (.fieldLink RX2 13 "PuppetBar" "pulls" "[I") (by decide +kernel)
  have k262 := hts (.constantLong RX2 262 (2139095040)) (by decide +kernel)
  refine lv_aload_n hx hb dX2_halve_0 rfl (lv_at hl 0 rfl) ?_
  refine lv_iload_n hx hb dX2_halve_1 rfl (lv_at hl 1 rfl) ?_
  refine lv_aload_n hx hb dX2_halve_2 rfl (lv_at hl 0 rfl) ?_
  refine va_get (D := D) (ci := 1) (C := RX2) (T := TX2) (N := 15) hx hb hts hinX2 hown hK hP 0 rfl rfl 0 (by decide) k9 (fun _ h9 => h9) rfl dX2_halve_3 ?_
  refine lv_iload_n hx hb dX2_halve_6 rfl (lv_at hl 1 rfl) ?_
  refine va_lald hx hb hK hP 1 1 rfl rfl h_t dX2_halve_7 ?_
  refine cl_Pl (c_X1_amount l _) ⟨hx, hb, hml, hown, hts⟩ (va_cwS 1 hts gX2_halve_X1_amount rfl rfl rfl (by decide +kernel) ⟨Nat.le_of_ble_eq_true rfl, Nat.le_of_ble_eq_true rfl⟩) rfl hl.1 rfl (Nat.le_of_ble_eq_true rfl) (Nat.zero_le _) (Nat.zero_le _) dX2_halve_8 ?_
  refine lv_bipush (v := 52) hx hb dX2_halve_11 (by decide) ?_
  refine lv_ldc2 hx hb hown k133 dX2_halve_13 ?_
  refine cl_Pl (c_X1_half l _ _ _) ⟨hx, hb, hml, hown, hts⟩ (va_cwS 3 hts gX2_halve_X1_half rfl rfl rfl (by decide +kernel) ⟨Nat.le_of_ble_eq_true rfl, Nat.le_of_ble_eq_true rfl⟩) rfl hl.1 rfl (Nat.le_of_ble_eq_true rfl) (Nat.zero_le _) (Nat.zero_le _) dX2_halve_16 ?_
  refine lv_aload_n hx hb dX2_halve_19 rfl (lv_at hl 0 rfl) ?_
  refine va_get (D := D) (ci := 1) (C := RX2) (T := TX2) (N := 15) hx hb hts hinX2 hown hK hP 0 rfl rfl 1 (by decide) k13 (fun _ h9 => h9) rfl dX2_halve_20 ?_
  refine lv_iload_n hx hb dX2_halve_23 rfl (lv_at hl 1 rfl) ?_
  refine va_iald hx hb hK hP 2 0 rfl rfl h_t dX2_halve_24 ?_
  refine cl_Pi (c_X1_shortAmount l _) ⟨hx, hb, hml, hown, hts⟩ (va_cwS 1 hts gX2_halve_X1_shortAmount rfl rfl rfl (by decide +kernel) ⟨Nat.le_of_ble_eq_true rfl, Nat.le_of_ble_eq_true rfl⟩) rfl hl.1 rfl (Nat.le_of_ble_eq_true rfl) (Nat.zero_le _) (Nat.zero_le _) dX2_halve_25 ?_
  refine lv_i2l hx hb dX2_halve_28 rfl ?_
  refine lv_bipush (v := 23) hx hb dX2_halve_29 (by decide) ?_
  refine lv_ldc2 hx hb hown k262 dX2_halve_31 ?_
  refine cl_Pl (c_X1_half l _ _ _) ⟨hx, hb, hml, hown, hts⟩ (va_cwS 3 hts gX2_halve_X1_half rfl rfl rfl (by decide +kernel) ⟨Nat.le_of_ble_eq_true rfl, Nat.le_of_ble_eq_true rfl⟩) rfl hl.1 rfl (Nat.le_of_ble_eq_true rfl) (Nat.zero_le _) (Nat.zero_le _) dX2_halve_34 ?_
  refine cl_V (c_X2_changeAmounts l D K a _ _ _ _ h_t) ⟨hx, hb, hml, hown, hts⟩ (cwV 3 hts gX2_halve_X2_changeAmounts rfl rfl rfl (by decide +kernel) ⟨Nat.le_of_ble_eq_true rfl, Nat.le_of_ble_eq_true rfl⟩) hK hP hD hS hA rfl rfl rfl rfl hl.1 rfl (Nat.le_of_ble_eq_true rfl) (Nat.zero_le _) (Nat.zero_le _) dX2_halve_37 (fun H locs hP hD hS => ?_)
  obtain ⟨s1, es1⟩ : ∃ zz : SB, f_X2_changeAmounts s t (f_X1_half (f_X1_amount ((gB_L s) t.toNatClampNeg)) 52 9218868437227405312) (f_X1_half (Int32.toInt64 (f_X1_shortAmount ((gB_P s) t.toNatClampNeg))) 23 2139095040) = zz := ⟨_, rfl⟩
  rw [es1] at hP hD
  subst es1
  exact rt_V (s1 := _) hx hb hr hlk hK hP hD hS (Eq.symm (rfl)) dX2_halve_40

def f_X2_makeTwice (s : SB) (t : Int32) : SB := let s1 := f_X2_changeAmounts s t (f_X1_twice (f_X1_amount ((gB_L s) t.toNatClampNeg)) 52 9218868437227405312) (f_X1_twice (Int32.toInt64 (f_X1_shortAmount ((gB_P s) t.toNatClampNeg))) 23 2139095040); s1
set_option maxHeartbeats 4000000 in
set_option maxRecDepth 100000 in
theorem c_X2_makeTwice (l : Launch) (D : va_G) (K : ClassId × ClassId × ClassId) (a : Nat → Nat) (s : SB) (t : Int32) (h_t : vp_in t 8)  : MetV l yX2_makeTwice wsX2_makeTwice { frames := 2, cells := 0, slots := 0, locals := 48 } D vwCl (tyK K) (wB K a) [.ref (a 0), .int t] s (f_X2_makeTwice s t) := by
  intro sz0
  refine en_W (cc := cX2_makeTwice) (maxL := 2) (ret := none) (Qc := fun A => va_Qv (fun u0 : SB => u0 = f_X2_makeTwice s t) (bs_a D vwCl (tyK K) (wB K a) A) A) (by decide) rfl (Nat.le_of_ble_eq_true rfl) ?_ sz0
  intro p e st m below meth c ls A hx hb hr hml hts hown hlk hA hK hP hD hS hl
  have hown : st.vm.findClass RX2 = some m.cls := hown
  have hl : lv_has ls 2 [(0, .ref (a 0)), (1, .int t)] := hl
  have hinX2 : ∀ w ∈ u_ws RX2 TX2 15, w ∈ wsX2_makeTwice := fun w h => List.mem_cons_of_mem _ (List.mem_append_right _ h)
  have k9 := hts (.fieldLink RX2 9 "PuppetBar" "lengths" "[J") (by decide +kernel)
  have k133 := hts (.constantLong RX2 133 (9218868437227405312)) (by decide +kernel)
  have k13 := hts (.fieldLink RX2 13 "PuppetBar" "pulls" "[I") (by decide +kernel)
  have k262 := hts (.constantLong RX2 262 (2139095040)) (by decide +kernel)
  refine lv_aload_n hx hb dX2_makeTwice_0 rfl (lv_at hl 0 rfl) ?_
  refine lv_iload_n hx hb dX2_makeTwice_1 rfl (lv_at hl 1 rfl) ?_
  refine lv_aload_n hx hb dX2_makeTwice_2 rfl (lv_at hl 0 rfl) ?_
  refine va_get (D := D) (ci := 1) (C := RX2) (T := TX2) (N := 15) hx hb hts hinX2 hown hK hP 0 rfl rfl 0 (by decide) k9 (fun _ h9 => h9) rfl dX2_makeTwice_3 ?_
  refine lv_iload_n hx hb dX2_makeTwice_6 rfl (lv_at hl 1 rfl) ?_
  refine va_lald hx hb hK hP 1 1 rfl rfl h_t dX2_makeTwice_7 ?_
  refine cl_Pl (c_X1_amount l _) ⟨hx, hb, hml, hown, hts⟩ (va_cwS 1 hts gX2_makeTwice_X1_amount rfl rfl rfl (by decide +kernel) ⟨Nat.le_of_ble_eq_true rfl, Nat.le_of_ble_eq_true rfl⟩) rfl hl.1 rfl (Nat.le_of_ble_eq_true rfl) (Nat.zero_le _) (Nat.zero_le _) dX2_makeTwice_8 ?_
  refine lv_bipush (v := 52) hx hb dX2_makeTwice_11 (by decide) ?_
  refine lv_ldc2 hx hb hown k133 dX2_makeTwice_13 ?_
  refine cl_Pl (c_X1_twice l _ _ _) ⟨hx, hb, hml, hown, hts⟩ (va_cwS 3 hts gX2_makeTwice_X1_twice rfl rfl rfl (by decide +kernel) ⟨Nat.le_of_ble_eq_true rfl, Nat.le_of_ble_eq_true rfl⟩) rfl hl.1 rfl (Nat.le_of_ble_eq_true rfl) (Nat.zero_le _) (Nat.zero_le _) dX2_makeTwice_16 ?_
  refine lv_aload_n hx hb dX2_makeTwice_19 rfl (lv_at hl 0 rfl) ?_
  refine va_get (D := D) (ci := 1) (C := RX2) (T := TX2) (N := 15) hx hb hts hinX2 hown hK hP 0 rfl rfl 1 (by decide) k13 (fun _ h9 => h9) rfl dX2_makeTwice_20 ?_
  refine lv_iload_n hx hb dX2_makeTwice_23 rfl (lv_at hl 1 rfl) ?_
  refine va_iald hx hb hK hP 2 0 rfl rfl h_t dX2_makeTwice_24 ?_
  refine cl_Pi (c_X1_shortAmount l _) ⟨hx, hb, hml, hown, hts⟩ (va_cwS 1 hts gX2_makeTwice_X1_shortAmount rfl rfl rfl (by decide +kernel) ⟨Nat.le_of_ble_eq_true rfl, Nat.le_of_ble_eq_true rfl⟩) rfl hl.1 rfl (Nat.le_of_ble_eq_true rfl) (Nat.zero_le _) (Nat.zero_le _) dX2_makeTwice_25 ?_
  refine lv_i2l hx hb dX2_makeTwice_28 rfl ?_
  refine lv_bipush (v := 23) hx hb dX2_makeTwice_29 (by decide) ?_
  refine lv_ldc2 hx hb hown k262 dX2_makeTwice_31 ?_
  refine cl_Pl (c_X1_twice l _ _ _) ⟨hx, hb, hml, hown, hts⟩ (va_cwS 3 hts gX2_makeTwice_X1_twice rfl rfl rfl (by decide +kernel) ⟨Nat.le_of_ble_eq_true rfl, Nat.le_of_ble_eq_true rfl⟩) rfl hl.1 rfl (Nat.le_of_ble_eq_true rfl) (Nat.zero_le _) (Nat.zero_le _) dX2_makeTwice_34 ?_
  refine cl_V (c_X2_changeAmounts l D K a _ _ _ _ h_t) ⟨hx, hb, hml, hown, hts⟩ (cwV 3 hts gX2_makeTwice_X2_changeAmounts rfl rfl rfl (by decide +kernel) ⟨Nat.le_of_ble_eq_true rfl, Nat.le_of_ble_eq_true rfl⟩) hK hP hD hS hA rfl rfl rfl rfl hl.1 rfl (Nat.le_of_ble_eq_true rfl) (Nat.zero_le _) (Nat.zero_le _) dX2_makeTwice_37 (fun H locs hP hD hS => ?_)
  obtain ⟨s1, es1⟩ : ∃ zz : SB, f_X2_changeAmounts s t (f_X1_twice (f_X1_amount ((gB_L s) t.toNatClampNeg)) 52 9218868437227405312) (f_X1_twice (Int32.toInt64 (f_X1_shortAmount ((gB_P s) t.toNatClampNeg))) 23 2139095040) = zz := ⟨_, rfl⟩
  rw [es1] at hP hD
  subst es1
  exact rt_V (s1 := _) hx hb hr hlk hK hP hD hS (Eq.symm (rfl)) dX2_makeTwice_40

def f_X2_give (s : SB) (t : Int32) : SB := let s1 := f_X2_changeLength s t (gB_ti s); let s2 := f_X2_changePull s1 t (gB_we s1); let s3 := f_X2_changeKnots s2 t (gB_co s2); let s4 := f_X2_changeTwist s3 t (gB_tu s3); s4
set_option maxHeartbeats 4000000 in
set_option maxRecDepth 100000 in
theorem c_X2_give (l : Launch) (D : va_G) (K : ClassId × ClassId × ClassId) (a : Nat → Nat) (s : SB) (t : Int32) (h_t : vp_in t 8)  : MetV l yX2_give wsX2_give { frames := 1, cells := 0, slots := 0, locals := 23 } D vwCl (tyK K) (wB K a) [.ref (a 0), .int t] s (f_X2_give s t) := by
  intro sz0
  refine en_W (cc := cX2_give) (maxL := 2) (ret := none) (Qc := fun A => va_Qv (fun u0 : SB => u0 = f_X2_give s t) (bs_a D vwCl (tyK K) (wB K a) A) A) (by decide) rfl (Nat.le_of_ble_eq_true rfl) ?_ sz0
  intro p e st m below meth c ls A hx hb hr hml hts hown hlk hA hK hP hD hS hl
  have hown : st.vm.findClass RX2 = some m.cls := hown
  have hl : lv_has ls 2 [(0, .ref (a 0)), (1, .int t)] := hl
  have hinX2 : ∀ w ∈ u_ws RX2 TX2 15, w ∈ wsX2_give := fun w h => List.mem_cons_of_mem _ (List.mem_append_right _ h)
  have k33 := hts (.fieldLink RX2 33 "PuppetBar" "tilt" "J") (by decide +kernel)
  have k37 := hts (.fieldLink RX2 37 "PuppetBar" "weight" "I") (by decide +kernel)
  have k41 := hts (.fieldLink RX2 41 "PuppetBar" "count" "I") (by decide +kernel)
  have k44 := hts (.fieldLink RX2 44 "PuppetBar" "turn" "J") (by decide +kernel)
  refine lv_aload_n hx hb dX2_give_0 rfl (lv_at hl 0 rfl) ?_
  refine lv_iload_n hx hb dX2_give_1 rfl (lv_at hl 1 rfl) ?_
  refine lv_aload_n hx hb dX2_give_2 rfl (lv_at hl 0 rfl) ?_
  refine va_get (D := D) (ci := 1) (C := RX2) (T := TX2) (N := 15) hx hb hts hinX2 hown hK hP 0 rfl rfl 7 (by decide) k33 (fun _ h9 => h9) rfl dX2_give_3 ?_
  refine cl_V (c_X2_changeLength l D K a _ _ _ h_t) ⟨hx, hb, hml, hown, hts⟩ (cwV 2 hts gX2_give_X2_changeLength rfl rfl rfl (by decide +kernel) ⟨Nat.le_of_ble_eq_true rfl, Nat.le_of_ble_eq_true rfl⟩) hK hP hD hS hA rfl rfl rfl rfl hl.1 rfl (Nat.le_of_ble_eq_true rfl) (Nat.zero_le _) (Nat.zero_le _) dX2_give_6 (fun H locs hP hD hS => ?_)
  obtain ⟨s1, es1⟩ : ∃ zz : SB, f_X2_changeLength s t (gB_ti s) = zz := ⟨_, rfl⟩
  rw [es1] at hP hD
  refine lv_aload_n hx hb dX2_give_9 rfl (lv_at hl 0 rfl) ?_
  refine lv_iload_n hx hb dX2_give_10 rfl (lv_at hl 1 rfl) ?_
  refine lv_aload_n hx hb dX2_give_11 rfl (lv_at hl 0 rfl) ?_
  refine va_get (D := D) (ci := 1) (C := RX2) (T := TX2) (N := 15) hx hb hts hinX2 hown hK hP 0 rfl rfl 8 (by decide) k37 (fun _ h9 => h9) rfl dX2_give_12 ?_
  refine cl_V (c_X2_changePull l D K a _ _ _ h_t) ⟨hx, hb, hml, hown, hts⟩ (cwV 2 hts gX2_give_X2_changePull rfl rfl rfl (by decide +kernel) ⟨Nat.le_of_ble_eq_true rfl, Nat.le_of_ble_eq_true rfl⟩) hK hP hD hS hA rfl rfl rfl rfl hl.1 rfl (Nat.le_of_ble_eq_true rfl) (Nat.zero_le _) (Nat.zero_le _) dX2_give_15 (fun H locs hP hD hS => ?_)
  obtain ⟨s2, es2⟩ : ∃ zz : SB, f_X2_changePull s1 t (gB_we s1) = zz := ⟨_, rfl⟩
  rw [es2] at hP hD
  refine lv_aload_n hx hb dX2_give_18 rfl (lv_at hl 0 rfl) ?_
  refine lv_iload_n hx hb dX2_give_19 rfl (lv_at hl 1 rfl) ?_
  refine lv_aload_n hx hb dX2_give_20 rfl (lv_at hl 0 rfl) ?_
  refine va_get (D := D) (ci := 1) (C := RX2) (T := TX2) (N := 15) hx hb hts hinX2 hown hK hP 0 rfl rfl 9 (by decide) k41 (fun _ h9 => h9) rfl dX2_give_21 ?_
  refine cl_V (c_X2_changeKnots l D K a _ _ _ h_t) ⟨hx, hb, hml, hown, hts⟩ (cwV 2 hts gX2_give_X2_changeKnots rfl rfl rfl (by decide +kernel) ⟨Nat.le_of_ble_eq_true rfl, Nat.le_of_ble_eq_true rfl⟩) hK hP hD hS hA rfl rfl rfl rfl hl.1 rfl (Nat.le_of_ble_eq_true rfl) (Nat.zero_le _) (Nat.zero_le _) dX2_give_24 (fun H locs hP hD hS => ?_)
  obtain ⟨s3, es3⟩ : ∃ zz : SB, f_X2_changeKnots s2 t (gB_co s2) = zz := ⟨_, rfl⟩
  rw [es3] at hP hD
  refine lv_aload_n hx hb dX2_give_27 rfl (lv_at hl 0 rfl) ?_
  refine lv_iload_n hx hb dX2_give_28 rfl (lv_at hl 1 rfl) ?_
  refine lv_aload_n hx hb dX2_give_29 rfl (lv_at hl 0 rfl) ?_
  refine va_get (D := D) (ci := 1) (C := RX2) (T := TX2) (N := 15) hx hb hts hinX2 hown hK hP 0 rfl rfl 10 (by decide) k44 (fun _ h9 => h9) rfl dX2_give_30 ?_
  refine cl_V (c_X2_changeTwist l D K a _ _ _ h_t) ⟨hx, hb, hml, hown, hts⟩ (cwV 2 hts gX2_give_X2_changeTwist rfl rfl rfl (by decide +kernel) ⟨Nat.le_of_ble_eq_true rfl, Nat.le_of_ble_eq_true rfl⟩) hK hP hD hS hA rfl rfl rfl rfl hl.1 rfl (Nat.le_of_ble_eq_true rfl) (Nat.zero_le _) (Nat.zero_le _) dX2_give_33 (fun H locs hP hD hS => ?_)
  obtain ⟨s4, es4⟩ : ∃ zz : SB, f_X2_changeTwist s3 t (gB_tu s3) = zz := ⟨_, rfl⟩
  rw [es4] at hP hD
  subst es4 es3 es2 es1
  exact rt_V (s1 := _) hx hb hr hlk hK hP hD hS (Eq.symm (rfl)) dX2_give_36

def f_X2_letToWhole (s : SB) (t : Int32) (z : Int32) (y : Int32) : SB := let x1 := f_X1_amount ((gB_L s) t.toNatClampNeg); let x2 := Int32.toInt64 (f_X1_shortAmount ((gB_P s) t.toNatClampNeg)); if z = 0 then (if y = 0 then (let s3 := f_X2_changeAmounts s t (f_X1_wholeBelow x1 52 1023) (f_X1_wholeBelow x2 23 127); s3) else (let s4 := f_X2_changeAmounts s t (f_X1_wholeBelow x1 52 1023) (f_X1_wholeAbove x2 23 127); s4)) else (if y = 0 then (let s5 := f_X2_changeAmounts s t (f_X1_wholeAbove x1 52 1023) (f_X1_wholeBelow x2 23 127); s5) else (let s6 := f_X2_changeAmounts s t (f_X1_wholeAbove x1 52 1023) (f_X1_wholeAbove x2 23 127); s6))
set_option maxHeartbeats 4000000 in
set_option maxRecDepth 100000 in
theorem c_X2_letToWhole (l : Launch) (D : va_G) (K : ClassId × ClassId × ClassId) (a : Nat → Nat) (s : SB) (t : Int32) (z : Int32) (y : Int32) (h_t : vp_in t 8)  : MetV l yX2_letToWhole wsX2_letToWhole { frames := 3, cells := 0, slots := 0, locals := 72 } D vwCl (tyK K) (wB K a) [.ref (a 0), .int t, .int z, .int y] s (f_X2_letToWhole s t z y) := by
  intro sz0
  refine en_W (cc := cX2_letToWhole) (maxL := 8) (ret := none) (Qc := fun A => va_Qv (fun u0 : SB => u0 = f_X2_letToWhole s t z y) (bs_a D vwCl (tyK K) (wB K a) A) A) (by decide) rfl (Nat.le_of_ble_eq_true rfl) ?_ sz0
  intro p e st m below meth c ls A hx hb hr hml hts hown hlk hA hK hP hD hS hl
  have hown : st.vm.findClass RX2 = some m.cls := hown
  have hl : lv_has ls 8 [(0, .ref (a 0)), (1, .int t), (2, .int z), (3, .int y)] := hl
  have hinX2 : ∀ w ∈ u_ws RX2 TX2 15, w ∈ wsX2_letToWhole := fun w h => List.mem_cons_of_mem _ (List.mem_append_right _ h)
  have k9 := hts (.fieldLink RX2 9 "PuppetBar" "lengths" "[J") (by decide +kernel)
  have k13 := hts (.fieldLink RX2 13 "PuppetBar" "pulls" "[I") (by decide +kernel)
  refine lv_aload_n hx hb dX2_letToWhole_0 rfl (lv_at hl 0 rfl) ?_
  refine va_get (D := D) (ci := 1) (C := RX2) (T := TX2) (N := 15) hx hb hts hinX2 hown hK hP 0 rfl rfl 0 (by decide) k9 (fun _ h9 => h9) rfl dX2_letToWhole_1 ?_
  refine lv_iload_n hx hb dX2_letToWhole_4 rfl (lv_at hl 1 rfl) ?_
  refine va_lald hx hb hK hP 1 1 rfl rfl h_t dX2_letToWhole_5 ?_
  refine cl_Pl (c_X1_amount l _) ⟨hx, hb, hml, hown, hts⟩ (va_cwS 1 hts gX2_letToWhole_X1_amount rfl rfl rfl (by decide +kernel) ⟨Nat.le_of_ble_eq_true rfl, Nat.le_of_ble_eq_true rfl⟩) rfl hl.1 rfl (Nat.le_of_ble_eq_true rfl) (Nat.zero_le _) (Nat.zero_le _) dX2_letToWhole_6 ?_
  refine tpl (fun x1 ex1 => ?_)
  refine lv_lstore (lv' := [(4, .long x1), (0, .ref (a 0)), (1, .int t), (2, .int z), (3, .int y)]) hx hb dX2_letToWhole_9 hl (by decide) rfl (fun ls hl => ?_)
  refine lv_aload_n hx hb dX2_letToWhole_11 rfl (lv_at hl 1 rfl) ?_
  refine va_get (D := D) (ci := 1) (C := RX2) (T := TX2) (N := 15) hx hb hts hinX2 hown hK hP 0 rfl rfl 1 (by decide) k13 (fun _ h9 => h9) rfl dX2_letToWhole_12 ?_
  refine lv_iload_n hx hb dX2_letToWhole_15 rfl (lv_at hl 2 rfl) ?_
  refine va_iald hx hb hK hP 2 0 rfl rfl h_t dX2_letToWhole_16 ?_
  refine cl_Pi (c_X1_shortAmount l _) ⟨hx, hb, hml, hown, hts⟩ (va_cwS 1 hts gX2_letToWhole_X1_shortAmount rfl rfl rfl (by decide +kernel) ⟨Nat.le_of_ble_eq_true rfl, Nat.le_of_ble_eq_true rfl⟩) rfl hl.1 rfl (Nat.le_of_ble_eq_true rfl) (Nat.zero_le _) (Nat.zero_le _) dX2_letToWhole_17 ?_
  refine lv_i2l hx hb dX2_letToWhole_20 rfl ?_
  refine tpl (fun x2 ex2 => ?_)
  refine lv_lstore (lv' := [(6, .long x2), (4, .long x1), (0, .ref (a 0)), (1, .int t), (2, .int z), (3, .int y)]) hx hb dX2_letToWhole_21 hl (by decide) rfl (fun ls hl => ?_)
  refine lv_aload_n hx hb dX2_letToWhole_23 rfl (lv_at hl 2 rfl) ?_
  refine lv_iload_n hx hb dX2_letToWhole_24 rfl (lv_at hl 3 rfl) ?_
  refine lv_iload_n hx hb dX2_letToWhole_25 rfl (lv_at hl 4 rfl) ?_
  refine lv_if_eq (tgt := 42) hx hb dX2_letToWhole_26 (by decide) (fun c_26 => ?_) (fun c_26 => ?_)
  · refine lv_lload hx hb dX2_letToWhole_42 (lv_at hl 1 rfl) ?_
    refine lv_bipush (v := 52) hx hb dX2_letToWhole_44 (by decide) ?_
    refine lv_sipush (v := 1023) hx hb dX2_letToWhole_46 (by decide) ?_
    refine cl_Pl (c_X1_wholeBelow l _ _ _) ⟨hx, hb, hml, hown, hts⟩ (va_cwS 3 hts gX2_letToWhole_X1_wholeBelow rfl rfl rfl (by decide +kernel) ⟨Nat.le_of_ble_eq_true rfl, Nat.le_of_ble_eq_true rfl⟩) rfl hl.1 rfl (Nat.le_of_ble_eq_true rfl) (Nat.zero_le _) (Nat.zero_le _) dX2_letToWhole_49 ?_
    refine lv_iload_n hx hb dX2_letToWhole_52 rfl (lv_at hl 5 rfl) ?_
    refine lv_if_eq (tgt := 68) hx hb dX2_letToWhole_53 (by decide) (fun c_53 => ?_) (fun c_53 => ?_)
    · refine lv_lload hx hb dX2_letToWhole_68 (lv_at hl 0 rfl) ?_
      refine lv_bipush (v := 23) hx hb dX2_letToWhole_70 (by decide) ?_
      refine lv_bipush (v := 127) hx hb dX2_letToWhole_72 (by decide) ?_
      refine cl_Pl (c_X1_wholeBelow l _ _ _) ⟨hx, hb, hml, hown, hts⟩ (va_cwS 3 hts gX2_letToWhole_X1_wholeBelow rfl rfl rfl (by decide +kernel) ⟨Nat.le_of_ble_eq_true rfl, Nat.le_of_ble_eq_true rfl⟩) rfl hl.1 rfl (Nat.le_of_ble_eq_true rfl) (Nat.zero_le _) (Nat.zero_le _) dX2_letToWhole_74 ?_
      refine cl_V (c_X2_changeAmounts l D K a _ _ _ _ h_t) ⟨hx, hb, hml, hown, hts⟩ (cwV 3 hts gX2_letToWhole_X2_changeAmounts rfl rfl rfl (by decide +kernel) ⟨Nat.le_of_ble_eq_true rfl, Nat.le_of_ble_eq_true rfl⟩) hK hP hD hS hA rfl rfl rfl rfl hl.1 rfl (Nat.le_of_ble_eq_true rfl) (Nat.zero_le _) (Nat.zero_le _) dX2_letToWhole_77 (fun H locs hP hD hS => ?_)
      obtain ⟨s3, es3⟩ : ∃ zz : SB, f_X2_changeAmounts s t (f_X1_wholeBelow x1 52 1023) (f_X1_wholeBelow x2 23 127) = zz := ⟨_, rfl⟩
      rw [es3] at hP hD
      subst es3 ex2 ex1
      exact rt_V (s1 := _) hx hb hr hlk hK hP hD hS (Eq.symm (Eq.trans (if_pos c_26) (Eq.trans (if_pos c_53) (rfl)))) dX2_letToWhole_80
    · refine lv_lload hx hb dX2_letToWhole_56 (lv_at hl 0 rfl) ?_
      refine lv_bipush (v := 23) hx hb dX2_letToWhole_58 (by decide) ?_
      refine lv_bipush (v := 127) hx hb dX2_letToWhole_60 (by decide) ?_
      refine cl_Pl (c_X1_wholeAbove l _ _ _) ⟨hx, hb, hml, hown, hts⟩ (va_cwS 3 hts gX2_letToWhole_X1_wholeAbove rfl rfl rfl (by decide +kernel) ⟨Nat.le_of_ble_eq_true rfl, Nat.le_of_ble_eq_true rfl⟩) rfl hl.1 rfl (Nat.le_of_ble_eq_true rfl) (Nat.zero_le _) (Nat.zero_le _) dX2_letToWhole_62 ?_
      refine lv_goto (tgt := 77) hx hb dX2_letToWhole_65 (by decide) ?_
      refine cl_V (c_X2_changeAmounts l D K a _ _ _ _ h_t) ⟨hx, hb, hml, hown, hts⟩ (cwV 3 hts gX2_letToWhole_X2_changeAmounts rfl rfl rfl (by decide +kernel) ⟨Nat.le_of_ble_eq_true rfl, Nat.le_of_ble_eq_true rfl⟩) hK hP hD hS hA rfl rfl rfl rfl hl.1 rfl (Nat.le_of_ble_eq_true rfl) (Nat.zero_le _) (Nat.zero_le _) dX2_letToWhole_77 (fun H locs hP hD hS => ?_)
      obtain ⟨s4, es4⟩ : ∃ zz : SB, f_X2_changeAmounts s t (f_X1_wholeBelow x1 52 1023) (f_X1_wholeAbove x2 23 127) = zz := ⟨_, rfl⟩
      rw [es4] at hP hD
      subst es4 ex2 ex1
      exact rt_V (s1 := _) hx hb hr hlk hK hP hD hS (Eq.symm (Eq.trans (if_pos c_26) (Eq.trans (if_neg c_53) (rfl)))) dX2_letToWhole_80
  · refine lv_lload hx hb dX2_letToWhole_29 (lv_at hl 1 rfl) ?_
    refine lv_bipush (v := 52) hx hb dX2_letToWhole_31 (by decide) ?_
    refine lv_sipush (v := 1023) hx hb dX2_letToWhole_33 (by decide) ?_
    refine cl_Pl (c_X1_wholeAbove l _ _ _) ⟨hx, hb, hml, hown, hts⟩ (va_cwS 3 hts gX2_letToWhole_X1_wholeAbove rfl rfl rfl (by decide +kernel) ⟨Nat.le_of_ble_eq_true rfl, Nat.le_of_ble_eq_true rfl⟩) rfl hl.1 rfl (Nat.le_of_ble_eq_true rfl) (Nat.zero_le _) (Nat.zero_le _) dX2_letToWhole_36 ?_
    refine lv_goto (tgt := 52) hx hb dX2_letToWhole_39 (by decide) ?_
    refine lv_iload_n hx hb dX2_letToWhole_52 rfl (lv_at hl 5 rfl) ?_
    refine lv_if_eq (tgt := 68) hx hb dX2_letToWhole_53 (by decide) (fun c_53 => ?_) (fun c_53 => ?_)
    · refine lv_lload hx hb dX2_letToWhole_68 (lv_at hl 0 rfl) ?_
      refine lv_bipush (v := 23) hx hb dX2_letToWhole_70 (by decide) ?_
      refine lv_bipush (v := 127) hx hb dX2_letToWhole_72 (by decide) ?_
      refine cl_Pl (c_X1_wholeBelow l _ _ _) ⟨hx, hb, hml, hown, hts⟩ (va_cwS 3 hts gX2_letToWhole_X1_wholeBelow rfl rfl rfl (by decide +kernel) ⟨Nat.le_of_ble_eq_true rfl, Nat.le_of_ble_eq_true rfl⟩) rfl hl.1 rfl (Nat.le_of_ble_eq_true rfl) (Nat.zero_le _) (Nat.zero_le _) dX2_letToWhole_74 ?_
      refine cl_V (c_X2_changeAmounts l D K a _ _ _ _ h_t) ⟨hx, hb, hml, hown, hts⟩ (cwV 3 hts gX2_letToWhole_X2_changeAmounts rfl rfl rfl (by decide +kernel) ⟨Nat.le_of_ble_eq_true rfl, Nat.le_of_ble_eq_true rfl⟩) hK hP hD hS hA rfl rfl rfl rfl hl.1 rfl (Nat.le_of_ble_eq_true rfl) (Nat.zero_le _) (Nat.zero_le _) dX2_letToWhole_77 (fun H locs hP hD hS => ?_)
      obtain ⟨s5, es5⟩ : ∃ zz : SB, f_X2_changeAmounts s t (f_X1_wholeAbove x1 52 1023) (f_X1_wholeBelow x2 23 127) = zz := ⟨_, rfl⟩
      rw [es5] at hP hD
      subst es5 ex2 ex1
      exact rt_V (s1 := _) hx hb hr hlk hK hP hD hS (Eq.symm (Eq.trans (if_neg c_26) (Eq.trans (if_pos c_53) (rfl)))) dX2_letToWhole_80
    · refine lv_lload hx hb dX2_letToWhole_56 (lv_at hl 0 rfl) ?_
      refine lv_bipush (v := 23) hx hb dX2_letToWhole_58 (by decide) ?_
      refine lv_bipush (v := 127) hx hb dX2_letToWhole_60 (by decide) ?_
      refine cl_Pl (c_X1_wholeAbove l _ _ _) ⟨hx, hb, hml, hown, hts⟩ (va_cwS 3 hts gX2_letToWhole_X1_wholeAbove rfl rfl rfl (by decide +kernel) ⟨Nat.le_of_ble_eq_true rfl, Nat.le_of_ble_eq_true rfl⟩) rfl hl.1 rfl (Nat.le_of_ble_eq_true rfl) (Nat.zero_le _) (Nat.zero_le _) dX2_letToWhole_62 ?_
      refine lv_goto (tgt := 77) hx hb dX2_letToWhole_65 (by decide) ?_
      refine cl_V (c_X2_changeAmounts l D K a _ _ _ _ h_t) ⟨hx, hb, hml, hown, hts⟩ (cwV 3 hts gX2_letToWhole_X2_changeAmounts rfl rfl rfl (by decide +kernel) ⟨Nat.le_of_ble_eq_true rfl, Nat.le_of_ble_eq_true rfl⟩) hK hP hD hS hA rfl rfl rfl rfl hl.1 rfl (Nat.le_of_ble_eq_true rfl) (Nat.zero_le _) (Nat.zero_le _) dX2_letToWhole_77 (fun H locs hP hD hS => ?_)
      obtain ⟨s6, es6⟩ : ∃ zz : SB, f_X2_changeAmounts s t (f_X1_wholeAbove x1 52 1023) (f_X1_wholeAbove x2 23 127) = zz := ⟨_, rfl⟩
      rw [es6] at hP hD
      subst es6 ex2 ex1
      exact rt_V (s1 := _) hx hb hr hlk hK hP hD hS (Eq.symm (Eq.trans (if_neg c_26) (Eq.trans (if_neg c_53) (rfl)))) dX2_letToWhole_80

def f_X2_stretch (s : SB) (t : Int32) (u : Int32) : SB := let s1 := f_X2_changeLength s t (f_X1_greater ((gB_L s) t.toNatClampNeg) ((gB_L s) u.toNatClampNeg)); let s2 := f_X2_changePull s1 t (f_X1_shortGreater ((gB_P s1) t.toNatClampNeg) ((gB_P s1) u.toNatClampNeg)); let s3 := f_X2_changeKnots s2 t (if ((gB_K s2) t.toNatClampNeg) < ((gB_K s2) u.toNatClampNeg) then ((gB_K s2) u.toNatClampNeg) else ((gB_K s2) t.toNatClampNeg)); let s4 := f_X2_changeTwist s3 t (if ((gB_T s3) u.toNatClampNeg) < ((gB_T s3) t.toNatClampNeg) then ((gB_T s3) t.toNatClampNeg) else ((gB_T s3) u.toNatClampNeg)); s4
set_option maxHeartbeats 4000000 in
set_option maxRecDepth 100000 in
theorem c_X2_stretch (l : Launch) (D : va_G) (K : ClassId × ClassId × ClassId) (a : Nat → Nat) (s : SB) (t : Int32) (u : Int32) (h_t : vp_in t 8) (h_u : vp_in u 8)  : MetV l yX2_stretch wsX2_stretch { frames := 2, cells := 0, slots := 0, locals := 44 } D vwCl (tyK K) (wB K a) [.ref (a 0), .int t, .int u] s (f_X2_stretch s t u) := by
  intro sz0
  refine en_W (cc := cX2_stretch) (maxL := 3) (ret := none) (Qc := fun A => va_Qv (fun u0 : SB => u0 = f_X2_stretch s t u) (bs_a D vwCl (tyK K) (wB K a) A) A) (by decide) rfl (Nat.le_of_ble_eq_true rfl) ?_ sz0
  intro p e st m below meth c ls A hx hb hr hml hts hown hlk hA hK hP hD hS hl
  have hown : st.vm.findClass RX2 = some m.cls := hown
  have hl : lv_has ls 3 [(0, .ref (a 0)), (1, .int t), (2, .int u)] := hl
  have hinX2 : ∀ w ∈ u_ws RX2 TX2 15, w ∈ wsX2_stretch := fun w h => List.mem_cons_of_mem _ (List.mem_append_right _ h)
  have k9 := hts (.fieldLink RX2 9 "PuppetBar" "lengths" "[J") (by decide +kernel)
  have k13 := hts (.fieldLink RX2 13 "PuppetBar" "pulls" "[I") (by decide +kernel)
  have k17 := hts (.fieldLink RX2 17 "PuppetBar" "knots" "[I") (by decide +kernel)
  have k219 := hts (.methodLink RX2 219 Lib.Math.max.name) (by decide +kernel)
  have smax := hts (.static Lib.Math.max.name) (by decide +kernel)
  have kini := hts (.initialized "java/lang/Math") (by decide +kernel)
  have dmax := hts (.code Lib.Math.max.name Lib.Math.max.code 2 (some .int)) (by decide +kernel)
  have k20 := hts (.fieldLink RX2 20 "PuppetBar" "twists" "[J") (by decide +kernel)
  have k222 := hts (.methodLink RX2 222 Lib.MathLoose.max_long.x) (by decide +kernel)
  have smax_long := hts (.static Lib.MathLoose.max_long.x) (by decide +kernel)
  have dmax_long := hts (.code Lib.MathLoose.max_long.x Lib.MathLoose.max_long.code 4 (some .long)) (by decide +kernel)
  refine lv_aload_n hx hb dX2_stretch_0 rfl (lv_at hl 0 rfl) ?_
  refine lv_iload_n hx hb dX2_stretch_1 rfl (lv_at hl 1 rfl) ?_
  refine lv_aload_n hx hb dX2_stretch_2 rfl (lv_at hl 0 rfl) ?_
  refine va_get (D := D) (ci := 1) (C := RX2) (T := TX2) (N := 15) hx hb hts hinX2 hown hK hP 0 rfl rfl 0 (by decide) k9 (fun _ h9 => h9) rfl dX2_stretch_3 ?_
  refine lv_iload_n hx hb dX2_stretch_6 rfl (lv_at hl 1 rfl) ?_
  refine va_lald hx hb hK hP 1 1 rfl rfl h_t dX2_stretch_7 ?_
  refine lv_aload_n hx hb dX2_stretch_8 rfl (lv_at hl 0 rfl) ?_
  refine va_get (D := D) (ci := 1) (C := RX2) (T := TX2) (N := 15) hx hb hts hinX2 hown hK hP 0 rfl rfl 0 (by decide) k9 (fun _ h9 => h9) rfl dX2_stretch_9 ?_
  refine lv_iload_n hx hb dX2_stretch_12 rfl (lv_at hl 2 rfl) ?_
  refine va_lald hx hb hK hP 1 1 rfl rfl h_u dX2_stretch_13 ?_
  refine cl_Pl (c_X1_greater l _ _) ⟨hx, hb, hml, hown, hts⟩ (va_cwS 2 hts gX2_stretch_X1_greater rfl rfl rfl (by decide +kernel) ⟨Nat.le_of_ble_eq_true rfl, Nat.le_of_ble_eq_true rfl⟩) rfl hl.1 rfl (Nat.le_of_ble_eq_true rfl) (Nat.zero_le _) (Nat.zero_le _) dX2_stretch_14 ?_
  refine cl_V (c_X2_changeLength l D K a _ _ _ h_t) ⟨hx, hb, hml, hown, hts⟩ (cwV 2 hts gX2_stretch_X2_changeLength rfl rfl rfl (by decide +kernel) ⟨Nat.le_of_ble_eq_true rfl, Nat.le_of_ble_eq_true rfl⟩) hK hP hD hS hA rfl rfl rfl rfl hl.1 rfl (Nat.le_of_ble_eq_true rfl) (Nat.zero_le _) (Nat.zero_le _) dX2_stretch_17 (fun H locs hP hD hS => ?_)
  obtain ⟨s1, es1⟩ : ∃ zz : SB, f_X2_changeLength s t (f_X1_greater ((gB_L s) t.toNatClampNeg) ((gB_L s) u.toNatClampNeg)) = zz := ⟨_, rfl⟩
  rw [es1] at hP hD
  refine lv_aload_n hx hb dX2_stretch_20 rfl (lv_at hl 0 rfl) ?_
  refine lv_iload_n hx hb dX2_stretch_21 rfl (lv_at hl 1 rfl) ?_
  refine lv_aload_n hx hb dX2_stretch_22 rfl (lv_at hl 0 rfl) ?_
  refine va_get (D := D) (ci := 1) (C := RX2) (T := TX2) (N := 15) hx hb hts hinX2 hown hK hP 0 rfl rfl 1 (by decide) k13 (fun _ h9 => h9) rfl dX2_stretch_23 ?_
  refine lv_iload_n hx hb dX2_stretch_26 rfl (lv_at hl 1 rfl) ?_
  refine va_iald hx hb hK hP 2 0 rfl rfl h_t dX2_stretch_27 ?_
  refine lv_aload_n hx hb dX2_stretch_28 rfl (lv_at hl 0 rfl) ?_
  refine va_get (D := D) (ci := 1) (C := RX2) (T := TX2) (N := 15) hx hb hts hinX2 hown hK hP 0 rfl rfl 1 (by decide) k13 (fun _ h9 => h9) rfl dX2_stretch_29 ?_
  refine lv_iload_n hx hb dX2_stretch_32 rfl (lv_at hl 2 rfl) ?_
  refine va_iald hx hb hK hP 2 0 rfl rfl h_u dX2_stretch_33 ?_
  refine cl_Pi (c_X1_shortGreater l _ _) ⟨hx, hb, hml, hown, hts⟩ (va_cwS 2 hts gX2_stretch_X1_shortGreater rfl rfl rfl (by decide +kernel) ⟨Nat.le_of_ble_eq_true rfl, Nat.le_of_ble_eq_true rfl⟩) rfl hl.1 rfl (Nat.le_of_ble_eq_true rfl) (Nat.zero_le _) (Nat.zero_le _) dX2_stretch_34 ?_
  refine cl_V (c_X2_changePull l D K a _ _ _ h_t) ⟨hx, hb, hml, hown, hts⟩ (cwV 2 hts gX2_stretch_X2_changePull rfl rfl rfl (by decide +kernel) ⟨Nat.le_of_ble_eq_true rfl, Nat.le_of_ble_eq_true rfl⟩) hK hP hD hS hA rfl rfl rfl rfl hl.1 rfl (Nat.le_of_ble_eq_true rfl) (Nat.zero_le _) (Nat.zero_le _) dX2_stretch_37 (fun H locs hP hD hS => ?_)
  obtain ⟨s2, es2⟩ : ∃ zz : SB, f_X2_changePull s1 t (f_X1_shortGreater ((gB_P s1) t.toNatClampNeg) ((gB_P s1) u.toNatClampNeg)) = zz := ⟨_, rfl⟩
  rw [es2] at hP hD
  refine lv_aload_n hx hb dX2_stretch_40 rfl (lv_at hl 0 rfl) ?_
  refine lv_iload_n hx hb dX2_stretch_41 rfl (lv_at hl 1 rfl) ?_
  refine lv_aload_n hx hb dX2_stretch_42 rfl (lv_at hl 0 rfl) ?_
  refine va_get (D := D) (ci := 1) (C := RX2) (T := TX2) (N := 15) hx hb hts hinX2 hown hK hP 0 rfl rfl 2 (by decide) k17 (fun _ h9 => h9) rfl dX2_stretch_43 ?_
  refine lv_iload_n hx hb dX2_stretch_46 rfl (lv_at hl 1 rfl) ?_
  refine va_iald hx hb hK hP 3 0 rfl rfl h_t dX2_stretch_47 ?_
  refine lv_aload_n hx hb dX2_stretch_48 rfl (lv_at hl 0 rfl) ?_
  refine va_get (D := D) (ci := 1) (C := RX2) (T := TX2) (N := 15) hx hb hts hinX2 hown hK hP 0 rfl rfl 2 (by decide) k17 (fun _ h9 => h9) rfl dX2_stretch_49 ?_
  refine lv_iload_n hx hb dX2_stretch_52 rfl (lv_at hl 2 rfl) ?_
  refine va_iald hx hb hK hP 3 0 rfl rfl h_u dX2_stretch_53 ?_
  refine va_mmax hx hb (hml.trans hl.1.symm) hown k219 smax kini dmax (Nat.le_of_ble_eq_true rfl) (Nat.le_of_ble_eq_true rfl) (Nat.zero_le _) (Nat.zero_le _) dX2_stretch_54 ?_
  refine cl_V (c_X2_changeKnots l D K a _ _ _ h_t) ⟨hx, hb, hml, hown, hts⟩ (cwV 2 hts gX2_stretch_X2_changeKnots rfl rfl rfl (by decide +kernel) ⟨Nat.le_of_ble_eq_true rfl, Nat.le_of_ble_eq_true rfl⟩) hK hP hD hS hA rfl rfl rfl rfl hl.1 rfl (Nat.le_of_ble_eq_true rfl) (Nat.zero_le _) (Nat.zero_le _) dX2_stretch_57 (fun H locs hP hD hS => ?_)
  obtain ⟨s3, es3⟩ : ∃ zz : SB, f_X2_changeKnots s2 t (if ((gB_K s2) t.toNatClampNeg) < ((gB_K s2) u.toNatClampNeg) then ((gB_K s2) u.toNatClampNeg) else ((gB_K s2) t.toNatClampNeg)) = zz := ⟨_, rfl⟩
  rw [es3] at hP hD
  refine lv_aload_n hx hb dX2_stretch_60 rfl (lv_at hl 0 rfl) ?_
  refine lv_iload_n hx hb dX2_stretch_61 rfl (lv_at hl 1 rfl) ?_
  refine lv_aload_n hx hb dX2_stretch_62 rfl (lv_at hl 0 rfl) ?_
  refine va_get (D := D) (ci := 1) (C := RX2) (T := TX2) (N := 15) hx hb hts hinX2 hown hK hP 0 rfl rfl 3 (by decide) k20 (fun _ h9 => h9) rfl dX2_stretch_63 ?_
  refine lv_iload_n hx hb dX2_stretch_66 rfl (lv_at hl 1 rfl) ?_
  refine va_lald hx hb hK hP 4 1 rfl rfl h_t dX2_stretch_67 ?_
  refine lv_aload_n hx hb dX2_stretch_68 rfl (lv_at hl 0 rfl) ?_
  refine va_get (D := D) (ci := 1) (C := RX2) (T := TX2) (N := 15) hx hb hts hinX2 hown hK hP 0 rfl rfl 3 (by decide) k20 (fun _ h9 => h9) rfl dX2_stretch_69 ?_
  refine lv_iload_n hx hb dX2_stretch_72 rfl (lv_at hl 2 rfl) ?_
  refine va_lald hx hb hK hP 4 1 rfl rfl h_u dX2_stretch_73 ?_
  refine va_mmax_long hx hb (hml.trans hl.1.symm) hown k222 smax_long kini dmax_long (Nat.le_of_ble_eq_true rfl) (Nat.le_of_ble_eq_true rfl) (Nat.zero_le _) (Nat.zero_le _) dX2_stretch_74 ?_
  refine cl_V (c_X2_changeTwist l D K a _ _ _ h_t) ⟨hx, hb, hml, hown, hts⟩ (cwV 2 hts gX2_stretch_X2_changeTwist rfl rfl rfl (by decide +kernel) ⟨Nat.le_of_ble_eq_true rfl, Nat.le_of_ble_eq_true rfl⟩) hK hP hD hS hA rfl rfl rfl rfl hl.1 rfl (Nat.le_of_ble_eq_true rfl) (Nat.zero_le _) (Nat.zero_le _) dX2_stretch_77 (fun H locs hP hD hS => ?_)
  obtain ⟨s4, es4⟩ : ∃ zz : SB, f_X2_changeTwist s3 t (if ((gB_T s3) u.toNatClampNeg) < ((gB_T s3) t.toNatClampNeg) then ((gB_T s3) t.toNatClampNeg) else ((gB_T s3) u.toNatClampNeg)) = zz := ⟨_, rfl⟩
  rw [es4] at hP hD
  subst es4 es3 es2 es1
  exact rt_V (s1 := _) hx hb hr hlk hK hP hD hS (Eq.symm (rfl)) dX2_stretch_80

def f_X2_ease (s : SB) (t : Int32) (u : Int32) : SB := let s1 := f_X2_changeLength s t (f_X1_lesser ((gB_L s) t.toNatClampNeg) ((gB_L s) u.toNatClampNeg)); let s2 := f_X2_changePull s1 t (f_X1_shortLesser ((gB_P s1) t.toNatClampNeg) ((gB_P s1) u.toNatClampNeg)); let s3 := f_X2_changeKnots s2 t (if ((gB_K s2) u.toNatClampNeg) < ((gB_K s2) t.toNatClampNeg) then ((gB_K s2) u.toNatClampNeg) else ((gB_K s2) t.toNatClampNeg)); let s4 := f_X2_changeTwist s3 t (if ((gB_T s3) u.toNatClampNeg) < ((gB_T s3) t.toNatClampNeg) then ((gB_T s3) u.toNatClampNeg) else ((gB_T s3) t.toNatClampNeg)); s4
set_option maxHeartbeats 4000000 in
set_option maxRecDepth 100000 in
theorem c_X2_ease (l : Launch) (D : va_G) (K : ClassId × ClassId × ClassId) (a : Nat → Nat) (s : SB) (t : Int32) (u : Int32) (h_t : vp_in t 8) (h_u : vp_in u 8)  : MetV l yX2_ease wsX2_ease { frames := 2, cells := 0, slots := 0, locals := 44 } D vwCl (tyK K) (wB K a) [.ref (a 0), .int t, .int u] s (f_X2_ease s t u) := by
  intro sz0
  refine en_W (cc := cX2_ease) (maxL := 3) (ret := none) (Qc := fun A => va_Qv (fun u0 : SB => u0 = f_X2_ease s t u) (bs_a D vwCl (tyK K) (wB K a) A) A) (by decide) rfl (Nat.le_of_ble_eq_true rfl) ?_ sz0
  intro p e st m below meth c ls A hx hb hr hml hts hown hlk hA hK hP hD hS hl
  have hown : st.vm.findClass RX2 = some m.cls := hown
  have hl : lv_has ls 3 [(0, .ref (a 0)), (1, .int t), (2, .int u)] := hl
  have hinX2 : ∀ w ∈ u_ws RX2 TX2 15, w ∈ wsX2_ease := fun w h => List.mem_cons_of_mem _ (List.mem_append_right _ h)
  have k9 := hts (.fieldLink RX2 9 "PuppetBar" "lengths" "[J") (by decide +kernel)
  have k13 := hts (.fieldLink RX2 13 "PuppetBar" "pulls" "[I") (by decide +kernel)
  have k17 := hts (.fieldLink RX2 17 "PuppetBar" "knots" "[I") (by decide +kernel)
  have k230 := hts (.methodLink RX2 230 Lib.Math.min.name) (by decide +kernel)
  have smin := hts (.static Lib.Math.min.name) (by decide +kernel)
  have kini := hts (.initialized "java/lang/Math") (by decide +kernel)
  have dmin := hts (.code Lib.Math.min.name Lib.Math.min.code 2 (some .int)) (by decide +kernel)
  have k20 := hts (.fieldLink RX2 20 "PuppetBar" "twists" "[J") (by decide +kernel)
  have k233 := hts (.methodLink RX2 233 Lib.MathLoose.min_long.x) (by decide +kernel)
  have smin_long := hts (.static Lib.MathLoose.min_long.x) (by decide +kernel)
  have dmin_long := hts (.code Lib.MathLoose.min_long.x Lib.MathLoose.min_long.code 4 (some .long)) (by decide +kernel)
  refine lv_aload_n hx hb dX2_ease_0 rfl (lv_at hl 0 rfl) ?_
  refine lv_iload_n hx hb dX2_ease_1 rfl (lv_at hl 1 rfl) ?_
  refine lv_aload_n hx hb dX2_ease_2 rfl (lv_at hl 0 rfl) ?_
  refine va_get (D := D) (ci := 1) (C := RX2) (T := TX2) (N := 15) hx hb hts hinX2 hown hK hP 0 rfl rfl 0 (by decide) k9 (fun _ h9 => h9) rfl dX2_ease_3 ?_
  refine lv_iload_n hx hb dX2_ease_6 rfl (lv_at hl 1 rfl) ?_
  refine va_lald hx hb hK hP 1 1 rfl rfl h_t dX2_ease_7 ?_
  refine lv_aload_n hx hb dX2_ease_8 rfl (lv_at hl 0 rfl) ?_
  refine va_get (D := D) (ci := 1) (C := RX2) (T := TX2) (N := 15) hx hb hts hinX2 hown hK hP 0 rfl rfl 0 (by decide) k9 (fun _ h9 => h9) rfl dX2_ease_9 ?_
  refine lv_iload_n hx hb dX2_ease_12 rfl (lv_at hl 2 rfl) ?_
  refine va_lald hx hb hK hP 1 1 rfl rfl h_u dX2_ease_13 ?_
  refine cl_Pl (c_X1_lesser l _ _) ⟨hx, hb, hml, hown, hts⟩ (va_cwS 2 hts gX2_ease_X1_lesser rfl rfl rfl (by decide +kernel) ⟨Nat.le_of_ble_eq_true rfl, Nat.le_of_ble_eq_true rfl⟩) rfl hl.1 rfl (Nat.le_of_ble_eq_true rfl) (Nat.zero_le _) (Nat.zero_le _) dX2_ease_14 ?_
  refine cl_V (c_X2_changeLength l D K a _ _ _ h_t) ⟨hx, hb, hml, hown, hts⟩ (cwV 2 hts gX2_ease_X2_changeLength rfl rfl rfl (by decide +kernel) ⟨Nat.le_of_ble_eq_true rfl, Nat.le_of_ble_eq_true rfl⟩) hK hP hD hS hA rfl rfl rfl rfl hl.1 rfl (Nat.le_of_ble_eq_true rfl) (Nat.zero_le _) (Nat.zero_le _) dX2_ease_17 (fun H locs hP hD hS => ?_)
  obtain ⟨s1, es1⟩ : ∃ zz : SB, f_X2_changeLength s t (f_X1_lesser ((gB_L s) t.toNatClampNeg) ((gB_L s) u.toNatClampNeg)) = zz := ⟨_, rfl⟩
  rw [es1] at hP hD
  refine lv_aload_n hx hb dX2_ease_20 rfl (lv_at hl 0 rfl) ?_
  refine lv_iload_n hx hb dX2_ease_21 rfl (lv_at hl 1 rfl) ?_
  refine lv_aload_n hx hb dX2_ease_22 rfl (lv_at hl 0 rfl) ?_
  refine va_get (D := D) (ci := 1) (C := RX2) (T := TX2) (N := 15) hx hb hts hinX2 hown hK hP 0 rfl rfl 1 (by decide) k13 (fun _ h9 => h9) rfl dX2_ease_23 ?_
  refine lv_iload_n hx hb dX2_ease_26 rfl (lv_at hl 1 rfl) ?_
  refine va_iald hx hb hK hP 2 0 rfl rfl h_t dX2_ease_27 ?_
  refine lv_aload_n hx hb dX2_ease_28 rfl (lv_at hl 0 rfl) ?_
  refine va_get (D := D) (ci := 1) (C := RX2) (T := TX2) (N := 15) hx hb hts hinX2 hown hK hP 0 rfl rfl 1 (by decide) k13 (fun _ h9 => h9) rfl dX2_ease_29 ?_
  refine lv_iload_n hx hb dX2_ease_32 rfl (lv_at hl 2 rfl) ?_
  refine va_iald hx hb hK hP 2 0 rfl rfl h_u dX2_ease_33 ?_
  refine cl_Pi (c_X1_shortLesser l _ _) ⟨hx, hb, hml, hown, hts⟩ (va_cwS 2 hts gX2_ease_X1_shortLesser rfl rfl rfl (by decide +kernel) ⟨Nat.le_of_ble_eq_true rfl, Nat.le_of_ble_eq_true rfl⟩) rfl hl.1 rfl (Nat.le_of_ble_eq_true rfl) (Nat.zero_le _) (Nat.zero_le _) dX2_ease_34 ?_
  refine cl_V (c_X2_changePull l D K a _ _ _ h_t) ⟨hx, hb, hml, hown, hts⟩ (cwV 2 hts gX2_ease_X2_changePull rfl rfl rfl (by decide +kernel) ⟨Nat.le_of_ble_eq_true rfl, Nat.le_of_ble_eq_true rfl⟩) hK hP hD hS hA rfl rfl rfl rfl hl.1 rfl (Nat.le_of_ble_eq_true rfl) (Nat.zero_le _) (Nat.zero_le _) dX2_ease_37 (fun H locs hP hD hS => ?_)
  obtain ⟨s2, es2⟩ : ∃ zz : SB, f_X2_changePull s1 t (f_X1_shortLesser ((gB_P s1) t.toNatClampNeg) ((gB_P s1) u.toNatClampNeg)) = zz := ⟨_, rfl⟩
  rw [es2] at hP hD
  refine lv_aload_n hx hb dX2_ease_40 rfl (lv_at hl 0 rfl) ?_
  refine lv_iload_n hx hb dX2_ease_41 rfl (lv_at hl 1 rfl) ?_
  refine lv_aload_n hx hb dX2_ease_42 rfl (lv_at hl 0 rfl) ?_
  refine va_get (D := D) (ci := 1) (C := RX2) (T := TX2) (N := 15) hx hb hts hinX2 hown hK hP 0 rfl rfl 2 (by decide) k17 (fun _ h9 => h9) rfl dX2_ease_43 ?_
  refine lv_iload_n hx hb dX2_ease_46 rfl (lv_at hl 1 rfl) ?_
  refine va_iald hx hb hK hP 3 0 rfl rfl h_t dX2_ease_47 ?_
  refine lv_aload_n hx hb dX2_ease_48 rfl (lv_at hl 0 rfl) ?_
  refine va_get (D := D) (ci := 1) (C := RX2) (T := TX2) (N := 15) hx hb hts hinX2 hown hK hP 0 rfl rfl 2 (by decide) k17 (fun _ h9 => h9) rfl dX2_ease_49 ?_
  refine lv_iload_n hx hb dX2_ease_52 rfl (lv_at hl 2 rfl) ?_
  refine va_iald hx hb hK hP 3 0 rfl rfl h_u dX2_ease_53 ?_
  refine va_mmin hx hb (hml.trans hl.1.symm) hown k230 smin kini dmin (Nat.le_of_ble_eq_true rfl) (Nat.le_of_ble_eq_true rfl) (Nat.zero_le _) (Nat.zero_le _) dX2_ease_54 ?_
  refine cl_V (c_X2_changeKnots l D K a _ _ _ h_t) ⟨hx, hb, hml, hown, hts⟩ (cwV 2 hts gX2_ease_X2_changeKnots rfl rfl rfl (by decide +kernel) ⟨Nat.le_of_ble_eq_true rfl, Nat.le_of_ble_eq_true rfl⟩) hK hP hD hS hA rfl rfl rfl rfl hl.1 rfl (Nat.le_of_ble_eq_true rfl) (Nat.zero_le _) (Nat.zero_le _) dX2_ease_57 (fun H locs hP hD hS => ?_)
  obtain ⟨s3, es3⟩ : ∃ zz : SB, f_X2_changeKnots s2 t (if ((gB_K s2) u.toNatClampNeg) < ((gB_K s2) t.toNatClampNeg) then ((gB_K s2) u.toNatClampNeg) else ((gB_K s2) t.toNatClampNeg)) = zz := ⟨_, rfl⟩
  rw [es3] at hP hD
  refine lv_aload_n hx hb dX2_ease_60 rfl (lv_at hl 0 rfl) ?_
  refine lv_iload_n hx hb dX2_ease_61 rfl (lv_at hl 1 rfl) ?_
  refine lv_aload_n hx hb dX2_ease_62 rfl (lv_at hl 0 rfl) ?_
  refine va_get (D := D) (ci := 1) (C := RX2) (T := TX2) (N := 15) hx hb hts hinX2 hown hK hP 0 rfl rfl 3 (by decide) k20 (fun _ h9 => h9) rfl dX2_ease_63 ?_
  refine lv_iload_n hx hb dX2_ease_66 rfl (lv_at hl 1 rfl) ?_
  refine va_lald hx hb hK hP 4 1 rfl rfl h_t dX2_ease_67 ?_
  refine lv_aload_n hx hb dX2_ease_68 rfl (lv_at hl 0 rfl) ?_
  refine va_get (D := D) (ci := 1) (C := RX2) (T := TX2) (N := 15) hx hb hts hinX2 hown hK hP 0 rfl rfl 3 (by decide) k20 (fun _ h9 => h9) rfl dX2_ease_69 ?_
  refine lv_iload_n hx hb dX2_ease_72 rfl (lv_at hl 2 rfl) ?_
  refine va_lald hx hb hK hP 4 1 rfl rfl h_u dX2_ease_73 ?_
  refine va_mmin_long hx hb (hml.trans hl.1.symm) hown k233 smin_long kini dmin_long (Nat.le_of_ble_eq_true rfl) (Nat.le_of_ble_eq_true rfl) (Nat.zero_le _) (Nat.zero_le _) dX2_ease_74 ?_
  refine cl_V (c_X2_changeTwist l D K a _ _ _ h_t) ⟨hx, hb, hml, hown, hts⟩ (cwV 2 hts gX2_ease_X2_changeTwist rfl rfl rfl (by decide +kernel) ⟨Nat.le_of_ble_eq_true rfl, Nat.le_of_ble_eq_true rfl⟩) hK hP hD hS hA rfl rfl rfl rfl hl.1 rfl (Nat.le_of_ble_eq_true rfl) (Nat.zero_le _) (Nat.zero_le _) dX2_ease_77 (fun H locs hP hD hS => ?_)
  obtain ⟨s4, es4⟩ : ∃ zz : SB, f_X2_changeTwist s3 t (if ((gB_T s3) u.toNatClampNeg) < ((gB_T s3) t.toNatClampNeg) then ((gB_T s3) u.toNatClampNeg) else ((gB_T s3) t.toNatClampNeg)) = zz := ⟨_, rfl⟩
  rw [es4] at hP hD
  subst es4 es3 es2 es1
  exact rt_V (s1 := _) hx hb hr hlk hK hP hD hS (Eq.symm (rfl)) dX2_ease_80

def f_X2_mirror (s : SB) (t : Int32) (u : Int32) : SB := let s1 := f_X2_changeLength s t (f_X1_withSign (f_X1_amount ((gB_L s) t.toNatClampNeg)) ((gB_L s) u.toNatClampNeg)); let s2 := f_X2_changePull s1 t (f_X1_shortWithSign (f_X1_shortAmount ((gB_P s1) t.toNatClampNeg)) ((gB_P s1) u.toNatClampNeg)); s2
set_option maxHeartbeats 4000000 in
set_option maxRecDepth 100000 in
theorem c_X2_mirror (l : Launch) (D : va_G) (K : ClassId × ClassId × ClassId) (a : Nat → Nat) (s : SB) (t : Int32) (u : Int32) (h_t : vp_in t 8) (h_u : vp_in u 8)  : MetV l yX2_mirror wsX2_mirror { frames := 1, cells := 0, slots := 0, locals := 23 } D vwCl (tyK K) (wB K a) [.ref (a 0), .int t, .int u] s (f_X2_mirror s t u) := by
  intro sz0
  refine en_W (cc := cX2_mirror) (maxL := 3) (ret := none) (Qc := fun A => va_Qv (fun u0 : SB => u0 = f_X2_mirror s t u) (bs_a D vwCl (tyK K) (wB K a) A) A) (by decide) rfl (Nat.le_of_ble_eq_true rfl) ?_ sz0
  intro p e st m below meth c ls A hx hb hr hml hts hown hlk hA hK hP hD hS hl
  have hown : st.vm.findClass RX2 = some m.cls := hown
  have hl : lv_has ls 3 [(0, .ref (a 0)), (1, .int t), (2, .int u)] := hl
  have hinX2 : ∀ w ∈ u_ws RX2 TX2 15, w ∈ wsX2_mirror := fun w h => List.mem_cons_of_mem _ (List.mem_append_right _ h)
  have k9 := hts (.fieldLink RX2 9 "PuppetBar" "lengths" "[J") (by decide +kernel)
  have k13 := hts (.fieldLink RX2 13 "PuppetBar" "pulls" "[I") (by decide +kernel)
  refine lv_aload_n hx hb dX2_mirror_0 rfl (lv_at hl 0 rfl) ?_
  refine lv_iload_n hx hb dX2_mirror_1 rfl (lv_at hl 1 rfl) ?_
  refine lv_aload_n hx hb dX2_mirror_2 rfl (lv_at hl 0 rfl) ?_
  refine va_get (D := D) (ci := 1) (C := RX2) (T := TX2) (N := 15) hx hb hts hinX2 hown hK hP 0 rfl rfl 0 (by decide) k9 (fun _ h9 => h9) rfl dX2_mirror_3 ?_
  refine lv_iload_n hx hb dX2_mirror_6 rfl (lv_at hl 1 rfl) ?_
  refine va_lald hx hb hK hP 1 1 rfl rfl h_t dX2_mirror_7 ?_
  refine cl_Pl (c_X1_amount l _) ⟨hx, hb, hml, hown, hts⟩ (va_cwS 1 hts gX2_mirror_X1_amount rfl rfl rfl (by decide +kernel) ⟨Nat.le_of_ble_eq_true rfl, Nat.le_of_ble_eq_true rfl⟩) rfl hl.1 rfl (Nat.le_of_ble_eq_true rfl) (Nat.zero_le _) (Nat.zero_le _) dX2_mirror_8 ?_
  refine lv_aload_n hx hb dX2_mirror_11 rfl (lv_at hl 0 rfl) ?_
  refine va_get (D := D) (ci := 1) (C := RX2) (T := TX2) (N := 15) hx hb hts hinX2 hown hK hP 0 rfl rfl 0 (by decide) k9 (fun _ h9 => h9) rfl dX2_mirror_12 ?_
  refine lv_iload_n hx hb dX2_mirror_15 rfl (lv_at hl 2 rfl) ?_
  refine va_lald hx hb hK hP 1 1 rfl rfl h_u dX2_mirror_16 ?_
  refine cl_Pl (c_X1_withSign l _ _) ⟨hx, hb, hml, hown, hts⟩ (va_cwS 2 hts gX2_mirror_X1_withSign rfl rfl rfl (by decide +kernel) ⟨Nat.le_of_ble_eq_true rfl, Nat.le_of_ble_eq_true rfl⟩) rfl hl.1 rfl (Nat.le_of_ble_eq_true rfl) (Nat.zero_le _) (Nat.zero_le _) dX2_mirror_17 ?_
  refine cl_V (c_X2_changeLength l D K a _ _ _ h_t) ⟨hx, hb, hml, hown, hts⟩ (cwV 2 hts gX2_mirror_X2_changeLength rfl rfl rfl (by decide +kernel) ⟨Nat.le_of_ble_eq_true rfl, Nat.le_of_ble_eq_true rfl⟩) hK hP hD hS hA rfl rfl rfl rfl hl.1 rfl (Nat.le_of_ble_eq_true rfl) (Nat.zero_le _) (Nat.zero_le _) dX2_mirror_20 (fun H locs hP hD hS => ?_)
  obtain ⟨s1, es1⟩ : ∃ zz : SB, f_X2_changeLength s t (f_X1_withSign (f_X1_amount ((gB_L s) t.toNatClampNeg)) ((gB_L s) u.toNatClampNeg)) = zz := ⟨_, rfl⟩
  rw [es1] at hP hD
  refine lv_aload_n hx hb dX2_mirror_23 rfl (lv_at hl 0 rfl) ?_
  refine lv_iload_n hx hb dX2_mirror_24 rfl (lv_at hl 1 rfl) ?_
  refine lv_aload_n hx hb dX2_mirror_25 rfl (lv_at hl 0 rfl) ?_
  refine va_get (D := D) (ci := 1) (C := RX2) (T := TX2) (N := 15) hx hb hts hinX2 hown hK hP 0 rfl rfl 1 (by decide) k13 (fun _ h9 => h9) rfl dX2_mirror_26 ?_
  refine lv_iload_n hx hb dX2_mirror_29 rfl (lv_at hl 1 rfl) ?_
  refine va_iald hx hb hK hP 2 0 rfl rfl h_t dX2_mirror_30 ?_
  refine cl_Pi (c_X1_shortAmount l _) ⟨hx, hb, hml, hown, hts⟩ (va_cwS 1 hts gX2_mirror_X1_shortAmount rfl rfl rfl (by decide +kernel) ⟨Nat.le_of_ble_eq_true rfl, Nat.le_of_ble_eq_true rfl⟩) rfl hl.1 rfl (Nat.le_of_ble_eq_true rfl) (Nat.zero_le _) (Nat.zero_le _) dX2_mirror_31 ?_
  refine lv_aload_n hx hb dX2_mirror_34 rfl (lv_at hl 0 rfl) ?_
  refine va_get (D := D) (ci := 1) (C := RX2) (T := TX2) (N := 15) hx hb hts hinX2 hown hK hP 0 rfl rfl 1 (by decide) k13 (fun _ h9 => h9) rfl dX2_mirror_35 ?_
  refine lv_iload_n hx hb dX2_mirror_38 rfl (lv_at hl 2 rfl) ?_
  refine va_iald hx hb hK hP 2 0 rfl rfl h_u dX2_mirror_39 ?_
  refine cl_Pi (c_X1_shortWithSign l _ _) ⟨hx, hb, hml, hown, hts⟩ (va_cwS 2 hts gX2_mirror_X1_shortWithSign rfl rfl rfl (by decide +kernel) ⟨Nat.le_of_ble_eq_true rfl, Nat.le_of_ble_eq_true rfl⟩) rfl hl.1 rfl (Nat.le_of_ble_eq_true rfl) (Nat.zero_le _) (Nat.zero_le _) dX2_mirror_40 ?_
  refine cl_V (c_X2_changePull l D K a _ _ _ h_t) ⟨hx, hb, hml, hown, hts⟩ (cwV 2 hts gX2_mirror_X2_changePull rfl rfl rfl (by decide +kernel) ⟨Nat.le_of_ble_eq_true rfl, Nat.le_of_ble_eq_true rfl⟩) hK hP hD hS hA rfl rfl rfl rfl hl.1 rfl (Nat.le_of_ble_eq_true rfl) (Nat.zero_le _) (Nat.zero_le _) dX2_mirror_43 (fun H locs hP hD hS => ?_)
  obtain ⟨s2, es2⟩ : ∃ zz : SB, f_X2_changePull s1 t (f_X1_shortWithSign (f_X1_shortAmount ((gB_P s1) t.toNatClampNeg)) ((gB_P s1) u.toNatClampNeg)) = zz := ⟨_, rfl⟩
  rw [es2] at hP hD
  subst es2 es1
  exact rt_V (s1 := _) hx hb hr hlk hK hP hD hS (Eq.symm (rfl)) dX2_mirror_46

def f_X2_placeStops (s : SB) (t : Int32) (u : Int32) : SB := pB_HI (pB_LO s (vp_updL (gB_LO s) t.toNatClampNeg (f_X1_lesser ((gB_L s) t.toNatClampNeg) ((gB_L s) u.toNatClampNeg)))) (vp_updL (gB_HI s) t.toNatClampNeg (f_X1_greater ((gB_L s) t.toNatClampNeg) ((gB_L s) u.toNatClampNeg)))
set_option maxHeartbeats 4000000 in
set_option maxRecDepth 100000 in
theorem c_X2_placeStops (l : Launch) (D : va_G) (K : ClassId × ClassId × ClassId) (a : Nat → Nat) (s : SB) (t : Int32) (u : Int32) (h_t : vp_in t 8) (h_u : vp_in u 8)  : MetV l yX2_placeStops wsX2_placeStops { frames := 2, cells := 0, slots := 0, locals := 44 } D vwCl (tyK K) (wB K a) [.ref (a 0), .int t, .int u] s (f_X2_placeStops s t u) := by
  intro sz0
  refine en_W (cc := cX2_placeStops) (maxL := 3) (ret := none) (Qc := fun A => va_Qv (fun u0 : SB => u0 = f_X2_placeStops s t u) (bs_a D vwCl (tyK K) (wB K a) A) A) (by decide) rfl (Nat.le_of_ble_eq_true rfl) ?_ sz0
  intro p e st m below meth c ls A hx hb hr hml hts hown hlk hA hK hP hD hS hl
  have hown : st.vm.findClass RX2 = some m.cls := hown
  have hl : lv_has ls 3 [(0, .ref (a 0)), (1, .int t), (2, .int u)] := hl
  have hinX2 : ∀ w ∈ u_ws RX2 TX2 15, w ∈ wsX2_placeStops := fun w h => List.mem_cons_of_mem _ (List.mem_append_right _ h)
  have k23 := hts (.fieldLink RX2 23 "PuppetBar" "lows" "[J") (by decide +kernel)
  have k9 := hts (.fieldLink RX2 9 "PuppetBar" "lengths" "[J") (by decide +kernel)
  have k26 := hts (.fieldLink RX2 26 "PuppetBar" "highs" "[J") (by decide +kernel)
  refine lv_aload_n hx hb dX2_placeStops_0 rfl (lv_at hl 0 rfl) ?_
  refine va_get (D := D) (ci := 1) (C := RX2) (T := TX2) (N := 15) hx hb hts hinX2 hown hK hP 0 rfl rfl 4 (by decide) k23 (fun _ h9 => h9) rfl dX2_placeStops_1 ?_
  refine lv_iload_n hx hb dX2_placeStops_4 rfl (lv_at hl 1 rfl) ?_
  refine lv_aload_n hx hb dX2_placeStops_5 rfl (lv_at hl 0 rfl) ?_
  refine va_get (D := D) (ci := 1) (C := RX2) (T := TX2) (N := 15) hx hb hts hinX2 hown hK hP 0 rfl rfl 0 (by decide) k9 (fun _ h9 => h9) rfl dX2_placeStops_6 ?_
  refine lv_iload_n hx hb dX2_placeStops_9 rfl (lv_at hl 1 rfl) ?_
  refine va_lald hx hb hK hP 1 1 rfl rfl h_t dX2_placeStops_10 ?_
  refine lv_aload_n hx hb dX2_placeStops_11 rfl (lv_at hl 0 rfl) ?_
  refine va_get (D := D) (ci := 1) (C := RX2) (T := TX2) (N := 15) hx hb hts hinX2 hown hK hP 0 rfl rfl 0 (by decide) k9 (fun _ h9 => h9) rfl dX2_placeStops_12 ?_
  refine lv_iload_n hx hb dX2_placeStops_15 rfl (lv_at hl 2 rfl) ?_
  refine va_lald hx hb hK hP 1 1 rfl rfl h_u dX2_placeStops_16 ?_
  refine cl_Pl (c_X1_lesser l _ _) ⟨hx, hb, hml, hown, hts⟩ (va_cwS 2 hts gX2_placeStops_X1_lesser rfl rfl rfl (by decide +kernel) ⟨Nat.le_of_ble_eq_true rfl, Nat.le_of_ble_eq_true rfl⟩) rfl hl.1 rfl (Nat.le_of_ble_eq_true rfl) (Nat.zero_le _) (Nat.zero_le _) dX2_placeStops_17 ?_
  refine va_last hx hb hK hP hD hS 5 1 rfl rfl h_t dX2_placeStops_20 (fun H locs hP hD hS => ?_)
  have hP : va_P D vwCl (wB K a (pB_LO s (vp_updL (gB_LO s) t.toNatClampNeg (f_X1_lesser ((gB_L s) t.toNatClampNeg) ((gB_L s) u.toNatClampNeg))))) H := hP
  have hD : va_D A (wB K a (pB_LO s (vp_updL (gB_LO s) t.toNatClampNeg (f_X1_lesser ((gB_L s) t.toNatClampNeg) ((gB_L s) u.toNatClampNeg))))) := hD
  refine lv_aload_n hx hb dX2_placeStops_21 rfl (lv_at hl 0 rfl) ?_
  refine va_get (D := D) (ci := 1) (C := RX2) (T := TX2) (N := 15) hx hb hts hinX2 hown hK hP 0 rfl rfl 5 (by decide) k26 (fun _ h9 => h9) rfl dX2_placeStops_22 ?_
  refine lv_iload_n hx hb dX2_placeStops_25 rfl (lv_at hl 1 rfl) ?_
  refine lv_aload_n hx hb dX2_placeStops_26 rfl (lv_at hl 0 rfl) ?_
  refine va_get (D := D) (ci := 1) (C := RX2) (T := TX2) (N := 15) hx hb hts hinX2 hown hK hP 0 rfl rfl 0 (by decide) k9 (fun _ h9 => h9) rfl dX2_placeStops_27 ?_
  refine lv_iload_n hx hb dX2_placeStops_30 rfl (lv_at hl 1 rfl) ?_
  refine va_lald hx hb hK hP 1 1 rfl rfl h_t dX2_placeStops_31 ?_
  refine lv_aload_n hx hb dX2_placeStops_32 rfl (lv_at hl 0 rfl) ?_
  refine va_get (D := D) (ci := 1) (C := RX2) (T := TX2) (N := 15) hx hb hts hinX2 hown hK hP 0 rfl rfl 0 (by decide) k9 (fun _ h9 => h9) rfl dX2_placeStops_33 ?_
  refine lv_iload_n hx hb dX2_placeStops_36 rfl (lv_at hl 2 rfl) ?_
  refine va_lald hx hb hK hP 1 1 rfl rfl h_u dX2_placeStops_37 ?_
  refine cl_Pl (c_X1_greater l _ _) ⟨hx, hb, hml, hown, hts⟩ (va_cwS 2 hts gX2_placeStops_X1_greater rfl rfl rfl (by decide +kernel) ⟨Nat.le_of_ble_eq_true rfl, Nat.le_of_ble_eq_true rfl⟩) rfl hl.1 rfl (Nat.le_of_ble_eq_true rfl) (Nat.zero_le _) (Nat.zero_le _) dX2_placeStops_38 ?_
  refine va_last hx hb hK hP hD hS 6 1 rfl rfl h_t dX2_placeStops_41 (fun H locs hP hD hS => ?_)
  have hP : va_P D vwCl (wB K a (pB_HI (pB_LO s (vp_updL (gB_LO s) t.toNatClampNeg (f_X1_lesser ((gB_L s) t.toNatClampNeg) ((gB_L s) u.toNatClampNeg)))) (vp_updL (gB_HI s) t.toNatClampNeg (f_X1_greater ((gB_L s) t.toNatClampNeg) ((gB_L s) u.toNatClampNeg))))) H := hP
  have hD : va_D A (wB K a (pB_HI (pB_LO s (vp_updL (gB_LO s) t.toNatClampNeg (f_X1_lesser ((gB_L s) t.toNatClampNeg) ((gB_L s) u.toNatClampNeg)))) (vp_updL (gB_HI s) t.toNatClampNeg (f_X1_greater ((gB_L s) t.toNatClampNeg) ((gB_L s) u.toNatClampNeg))))) := hD
  exact rt_V (s1 := _) hx hb hr hlk hK hP hD hS (Eq.symm (rfl)) dX2_placeStops_42

def f_X2_trade (s : SB) (t : Int32) (u : Int32) : SB := let x1 := (gB_L s) t.toNatClampNeg; let x2 := (gB_P s) t.toNatClampNeg; let x3 := (gB_K s) t.toNatClampNeg; let x4 := (gB_T s) t.toNatClampNeg; let x5 := (gB_LO s) t.toNatClampNeg; let x6 := (gB_HI s) t.toNatClampNeg; let s7 := f_X2_changeLength s t ((gB_L s) u.toNatClampNeg); let s8 := f_X2_changePull s7 t ((gB_P s7) u.toNatClampNeg); let s9 := f_X2_changeKnots s8 t ((gB_K s8) u.toNatClampNeg); let s10 := f_X2_changeTwist s9 t ((gB_T s9) u.toNatClampNeg); let s11 := f_X2_changeLength (pB_HI (pB_LO s10 (vp_updL (gB_LO s10) t.toNatClampNeg ((gB_LO s10) u.toNatClampNeg))) (vp_updL (gB_HI s10) t.toNatClampNeg ((gB_HI s10) u.toNatClampNeg))) u x1; let s12 := f_X2_changePull s11 u x2; let s13 := f_X2_changeKnots s12 u x3; let s14 := f_X2_changeTwist s13 u x4; pB_HI (pB_LO s14 (vp_updL (gB_LO s14) u.toNatClampNeg x5)) (vp_updL (gB_HI s14) u.toNatClampNeg x6)
set_option maxHeartbeats 4000000 in
set_option maxRecDepth 100000 in
theorem c_X2_trade (l : Launch) (D : va_G) (K : ClassId × ClassId × ClassId) (a : Nat → Nat) (s : SB) (t : Int32) (u : Int32) (h_t : vp_in t 8) (h_u : vp_in u 8)  : MetV l yX2_trade wsX2_trade { frames := 1, cells := 0, slots := 0, locals := 23 } D vwCl (tyK K) (wB K a) [.ref (a 0), .int t, .int u] s (f_X2_trade s t u) := by
  intro sz0
  refine en_W (cc := cX2_trade) (maxL := 13) (ret := none) (Qc := fun A => va_Qv (fun u0 : SB => u0 = f_X2_trade s t u) (bs_a D vwCl (tyK K) (wB K a) A) A) (by decide) rfl (Nat.le_of_ble_eq_true rfl) ?_ sz0
  intro p e st m below meth c ls A hx hb hr hml hts hown hlk hA hK hP hD hS hl
  have hown : st.vm.findClass RX2 = some m.cls := hown
  have hl : lv_has ls 13 [(0, .ref (a 0)), (1, .int t), (2, .int u)] := hl
  have hinX2 : ∀ w ∈ u_ws RX2 TX2 15, w ∈ wsX2_trade := fun w h => List.mem_cons_of_mem _ (List.mem_append_right _ h)
  have k9 := hts (.fieldLink RX2 9 "PuppetBar" "lengths" "[J") (by decide +kernel)
  have k13 := hts (.fieldLink RX2 13 "PuppetBar" "pulls" "[I") (by decide +kernel)
  have k17 := hts (.fieldLink RX2 17 "PuppetBar" "knots" "[I") (by decide +kernel)
  have k20 := hts (.fieldLink RX2 20 "PuppetBar" "twists" "[J") (by decide +kernel)
  have k23 := hts (.fieldLink RX2 23 "PuppetBar" "lows" "[J") (by decide +kernel)
  have k26 := hts (.fieldLink RX2 26 "PuppetBar" "highs" "[J") (by decide +kernel)
  refine lv_aload_n hx hb dX2_trade_0 rfl (lv_at hl 0 rfl) ?_
  refine va_get (D := D) (ci := 1) (C := RX2) (T := TX2) (N := 15) hx hb hts hinX2 hown hK hP 0 rfl rfl 0 (by decide) k9 (fun _ h9 => h9) rfl dX2_trade_1 ?_
  refine lv_iload_n hx hb dX2_trade_4 rfl (lv_at hl 1 rfl) ?_
  refine va_lald hx hb hK hP 1 1 rfl rfl h_t dX2_trade_5 ?_
  refine tpl (fun x1 ex1 => ?_)
  refine lv_lstore_n (lv' := [(3, .long x1), (0, .ref (a 0)), (1, .int t), (2, .int u)]) hx hb dX2_trade_6 rfl hl (by decide) rfl (fun ls hl => ?_)
  refine lv_aload_n hx hb dX2_trade_7 rfl (lv_at hl 1 rfl) ?_
  refine va_get (D := D) (ci := 1) (C := RX2) (T := TX2) (N := 15) hx hb hts hinX2 hown hK hP 0 rfl rfl 1 (by decide) k13 (fun _ h9 => h9) rfl dX2_trade_8 ?_
  refine lv_iload_n hx hb dX2_trade_11 rfl (lv_at hl 2 rfl) ?_
  refine va_iald hx hb hK hP 2 0 rfl rfl h_t dX2_trade_12 ?_
  refine tpi (fun x2 ex2 => ?_)
  refine lv_istore (lv' := [(5, .int x2), (3, .long x1), (0, .ref (a 0)), (1, .int t), (2, .int u)]) hx hb dX2_trade_13 hl (by decide) rfl (fun ls hl => ?_)
  refine lv_aload_n hx hb dX2_trade_15 rfl (lv_at hl 2 rfl) ?_
  refine va_get (D := D) (ci := 1) (C := RX2) (T := TX2) (N := 15) hx hb hts hinX2 hown hK hP 0 rfl rfl 2 (by decide) k17 (fun _ h9 => h9) rfl dX2_trade_16 ?_
  refine lv_iload_n hx hb dX2_trade_19 rfl (lv_at hl 3 rfl) ?_
  refine va_iald hx hb hK hP 3 0 rfl rfl h_t dX2_trade_20 ?_
  refine tpi (fun x3 ex3 => ?_)
  refine lv_istore (lv' := [(6, .int x3), (5, .int x2), (3, .long x1), (0, .ref (a 0)), (1, .int t), (2, .int u)]) hx hb dX2_trade_21 hl (by decide) rfl (fun ls hl => ?_)
  refine lv_aload_n hx hb dX2_trade_23 rfl (lv_at hl 3 rfl) ?_
  refine va_get (D := D) (ci := 1) (C := RX2) (T := TX2) (N := 15) hx hb hts hinX2 hown hK hP 0 rfl rfl 3 (by decide) k20 (fun _ h9 => h9) rfl dX2_trade_24 ?_
  refine lv_iload_n hx hb dX2_trade_27 rfl (lv_at hl 4 rfl) ?_
  refine va_lald hx hb hK hP 4 1 rfl rfl h_t dX2_trade_28 ?_
  refine tpl (fun x4 ex4 => ?_)
  refine lv_lstore (lv' := [(7, .long x4), (6, .int x3), (5, .int x2), (3, .long x1), (0, .ref (a 0)), (1, .int t), (2, .int u)]) hx hb dX2_trade_29 hl (by decide) rfl (fun ls hl => ?_)
  refine lv_aload_n hx hb dX2_trade_31 rfl (lv_at hl 4 rfl) ?_
  refine va_get (D := D) (ci := 1) (C := RX2) (T := TX2) (N := 15) hx hb hts hinX2 hown hK hP 0 rfl rfl 4 (by decide) k23 (fun _ h9 => h9) rfl dX2_trade_32 ?_
  refine lv_iload_n hx hb dX2_trade_35 rfl (lv_at hl 5 rfl) ?_
  refine va_lald hx hb hK hP 5 1 rfl rfl h_t dX2_trade_36 ?_
  refine tpl (fun x5 ex5 => ?_)
  refine lv_lstore (lv' := [(9, .long x5), (7, .long x4), (6, .int x3), (5, .int x2), (3, .long x1), (0, .ref (a 0)), (1, .int t), (2, .int u)]) hx hb dX2_trade_37 hl (by decide) rfl (fun ls hl => ?_)
  refine lv_aload_n hx hb dX2_trade_39 rfl (lv_at hl 5 rfl) ?_
  refine va_get (D := D) (ci := 1) (C := RX2) (T := TX2) (N := 15) hx hb hts hinX2 hown hK hP 0 rfl rfl 5 (by decide) k26 (fun _ h9 => h9) rfl dX2_trade_40 ?_
  refine lv_iload_n hx hb dX2_trade_43 rfl (lv_at hl 6 rfl) ?_
  refine va_lald hx hb hK hP 6 1 rfl rfl h_t dX2_trade_44 ?_
  refine tpl (fun x6 ex6 => ?_)
  refine lv_lstore (lv' := [(11, .long x6), (9, .long x5), (7, .long x4), (6, .int x3), (5, .int x2), (3, .long x1), (0, .ref (a 0)), (1, .int t), (2, .int u)]) hx hb dX2_trade_45 hl (by decide) rfl (fun ls hl => ?_)
  refine lv_aload_n hx hb dX2_trade_47 rfl (lv_at hl 6 rfl) ?_
  refine lv_iload_n hx hb dX2_trade_48 rfl (lv_at hl 7 rfl) ?_
  refine lv_aload_n hx hb dX2_trade_49 rfl (lv_at hl 6 rfl) ?_
  refine va_get (D := D) (ci := 1) (C := RX2) (T := TX2) (N := 15) hx hb hts hinX2 hown hK hP 0 rfl rfl 0 (by decide) k9 (fun _ h9 => h9) rfl dX2_trade_50 ?_
  refine lv_iload_n hx hb dX2_trade_53 rfl (lv_at hl 8 rfl) ?_
  refine va_lald hx hb hK hP 1 1 rfl rfl h_u dX2_trade_54 ?_
  refine cl_V (c_X2_changeLength l D K a _ _ _ h_t) ⟨hx, hb, hml, hown, hts⟩ (cwV 2 hts gX2_trade_X2_changeLength rfl rfl rfl (by decide +kernel) ⟨Nat.le_of_ble_eq_true rfl, Nat.le_of_ble_eq_true rfl⟩) hK hP hD hS hA rfl rfl rfl rfl hl.1 rfl (Nat.le_of_ble_eq_true rfl) (Nat.zero_le _) (Nat.zero_le _) dX2_trade_55 (fun H locs hP hD hS => ?_)
  obtain ⟨s7, es7⟩ : ∃ zz : SB, f_X2_changeLength s t ((gB_L s) u.toNatClampNeg) = zz := ⟨_, rfl⟩
  rw [es7] at hP hD
  refine lv_aload_n hx hb dX2_trade_58 rfl (lv_at hl 6 rfl) ?_
  refine lv_iload_n hx hb dX2_trade_59 rfl (lv_at hl 7 rfl) ?_
  refine lv_aload_n hx hb dX2_trade_60 rfl (lv_at hl 6 rfl) ?_
  refine va_get (D := D) (ci := 1) (C := RX2) (T := TX2) (N := 15) hx hb hts hinX2 hown hK hP 0 rfl rfl 1 (by decide) k13 (fun _ h9 => h9) rfl dX2_trade_61 ?_
  refine lv_iload_n hx hb dX2_trade_64 rfl (lv_at hl 8 rfl) ?_
  refine va_iald hx hb hK hP 2 0 rfl rfl h_u dX2_trade_65 ?_
  refine cl_V (c_X2_changePull l D K a _ _ _ h_t) ⟨hx, hb, hml, hown, hts⟩ (cwV 2 hts gX2_trade_X2_changePull rfl rfl rfl (by decide +kernel) ⟨Nat.le_of_ble_eq_true rfl, Nat.le_of_ble_eq_true rfl⟩) hK hP hD hS hA rfl rfl rfl rfl hl.1 rfl (Nat.le_of_ble_eq_true rfl) (Nat.zero_le _) (Nat.zero_le _) dX2_trade_66 (fun H locs hP hD hS => ?_)
  obtain ⟨s8, es8⟩ : ∃ zz : SB, f_X2_changePull s7 t ((gB_P s7) u.toNatClampNeg) = zz := ⟨_, rfl⟩
  rw [es8] at hP hD
  refine lv_aload_n hx hb dX2_trade_69 rfl (lv_at hl 6 rfl) ?_
  refine lv_iload_n hx hb dX2_trade_70 rfl (lv_at hl 7 rfl) ?_
  refine lv_aload_n hx hb dX2_trade_71 rfl (lv_at hl 6 rfl) ?_
  refine va_get (D := D) (ci := 1) (C := RX2) (T := TX2) (N := 15) hx hb hts hinX2 hown hK hP 0 rfl rfl 2 (by decide) k17 (fun _ h9 => h9) rfl dX2_trade_72 ?_
  refine lv_iload_n hx hb dX2_trade_75 rfl (lv_at hl 8 rfl) ?_
  refine va_iald hx hb hK hP 3 0 rfl rfl h_u dX2_trade_76 ?_
  refine cl_V (c_X2_changeKnots l D K a _ _ _ h_t) ⟨hx, hb, hml, hown, hts⟩ (cwV 2 hts gX2_trade_X2_changeKnots rfl rfl rfl (by decide +kernel) ⟨Nat.le_of_ble_eq_true rfl, Nat.le_of_ble_eq_true rfl⟩) hK hP hD hS hA rfl rfl rfl rfl hl.1 rfl (Nat.le_of_ble_eq_true rfl) (Nat.zero_le _) (Nat.zero_le _) dX2_trade_77 (fun H locs hP hD hS => ?_)
  obtain ⟨s9, es9⟩ : ∃ zz : SB, f_X2_changeKnots s8 t ((gB_K s8) u.toNatClampNeg) = zz := ⟨_, rfl⟩
  rw [es9] at hP hD
  refine lv_aload_n hx hb dX2_trade_80 rfl (lv_at hl 6 rfl) ?_
  refine lv_iload_n hx hb dX2_trade_81 rfl (lv_at hl 7 rfl) ?_
  refine lv_aload_n hx hb dX2_trade_82 rfl (lv_at hl 6 rfl) ?_
  refine va_get (D := D) (ci := 1) (C := RX2) (T := TX2) (N := 15) hx hb hts hinX2 hown hK hP 0 rfl rfl 3 (by decide) k20 (fun _ h9 => h9) rfl dX2_trade_83 ?_
  refine lv_iload_n hx hb dX2_trade_86 rfl (lv_at hl 8 rfl) ?_
  refine va_lald hx hb hK hP 4 1 rfl rfl h_u dX2_trade_87 ?_
  refine cl_V (c_X2_changeTwist l D K a _ _ _ h_t) ⟨hx, hb, hml, hown, hts⟩ (cwV 2 hts gX2_trade_X2_changeTwist rfl rfl rfl (by decide +kernel) ⟨Nat.le_of_ble_eq_true rfl, Nat.le_of_ble_eq_true rfl⟩) hK hP hD hS hA rfl rfl rfl rfl hl.1 rfl (Nat.le_of_ble_eq_true rfl) (Nat.zero_le _) (Nat.zero_le _) dX2_trade_88 (fun H locs hP hD hS => ?_)
  obtain ⟨s10, es10⟩ : ∃ zz : SB, f_X2_changeTwist s9 t ((gB_T s9) u.toNatClampNeg) = zz := ⟨_, rfl⟩
  rw [es10] at hP hD
  refine lv_aload_n hx hb dX2_trade_91 rfl (lv_at hl 6 rfl) ?_
  refine va_get (D := D) (ci := 1) (C := RX2) (T := TX2) (N := 15) hx hb hts hinX2 hown hK hP 0 rfl rfl 4 (by decide) k23 (fun _ h9 => h9) rfl dX2_trade_92 ?_
  refine lv_iload_n hx hb dX2_trade_95 rfl (lv_at hl 7 rfl) ?_
  refine lv_aload_n hx hb dX2_trade_96 rfl (lv_at hl 6 rfl) ?_
  refine va_get (D := D) (ci := 1) (C := RX2) (T := TX2) (N := 15) hx hb hts hinX2 hown hK hP 0 rfl rfl 4 (by decide) k23 (fun _ h9 => h9) rfl dX2_trade_97 ?_
  refine lv_iload_n hx hb dX2_trade_100 rfl (lv_at hl 8 rfl) ?_
  refine va_lald hx hb hK hP 5 1 rfl rfl h_u dX2_trade_101 ?_
  refine va_last hx hb hK hP hD hS 5 1 rfl rfl h_t dX2_trade_102 (fun H locs hP hD hS => ?_)
  have hP : va_P D vwCl (wB K a (pB_LO s10 (vp_updL (gB_LO s10) t.toNatClampNeg ((gB_LO s10) u.toNatClampNeg)))) H := hP
  have hD : va_D A (wB K a (pB_LO s10 (vp_updL (gB_LO s10) t.toNatClampNeg ((gB_LO s10) u.toNatClampNeg)))) := hD
  refine lv_aload_n hx hb dX2_trade_103 rfl (lv_at hl 6 rfl) ?_
  refine va_get (D := D) (ci := 1) (C := RX2) (T := TX2) (N := 15) hx hb hts hinX2 hown hK hP 0 rfl rfl 5 (by decide) k26 (fun _ h9 => h9) rfl dX2_trade_104 ?_
  refine lv_iload_n hx hb dX2_trade_107 rfl (lv_at hl 7 rfl) ?_
  refine lv_aload_n hx hb dX2_trade_108 rfl (lv_at hl 6 rfl) ?_
  refine va_get (D := D) (ci := 1) (C := RX2) (T := TX2) (N := 15) hx hb hts hinX2 hown hK hP 0 rfl rfl 5 (by decide) k26 (fun _ h9 => h9) rfl dX2_trade_109 ?_
  refine lv_iload_n hx hb dX2_trade_112 rfl (lv_at hl 8 rfl) ?_
  refine va_lald hx hb hK hP 6 1 rfl rfl h_u dX2_trade_113 ?_
  refine va_last hx hb hK hP hD hS 6 1 rfl rfl h_t dX2_trade_114 (fun H locs hP hD hS => ?_)
  have hP : va_P D vwCl (wB K a (pB_HI (pB_LO s10 (vp_updL (gB_LO s10) t.toNatClampNeg ((gB_LO s10) u.toNatClampNeg))) (vp_updL (gB_HI s10) t.toNatClampNeg ((gB_HI s10) u.toNatClampNeg)))) H := hP
  have hD : va_D A (wB K a (pB_HI (pB_LO s10 (vp_updL (gB_LO s10) t.toNatClampNeg ((gB_LO s10) u.toNatClampNeg))) (vp_updL (gB_HI s10) t.toNatClampNeg ((gB_HI s10) u.toNatClampNeg)))) := hD
  refine lv_aload_n hx hb dX2_trade_115 rfl (lv_at hl 6 rfl) ?_
  refine lv_iload_n hx hb dX2_trade_116 rfl (lv_at hl 8 rfl) ?_
  refine lv_lload_n hx hb dX2_trade_117 rfl (lv_at hl 5 rfl) ?_
  refine cl_V (c_X2_changeLength l D K a _ _ _ h_u) ⟨hx, hb, hml, hown, hts⟩ (cwV 2 hts gX2_trade_X2_changeLength rfl rfl rfl (by decide +kernel) ⟨Nat.le_of_ble_eq_true rfl, Nat.le_of_ble_eq_true rfl⟩) hK hP hD hS hA rfl rfl rfl rfl hl.1 rfl (Nat.le_of_ble_eq_true rfl) (Nat.zero_le _) (Nat.zero_le _) dX2_trade_118 (fun H locs hP hD hS => ?_)
  obtain ⟨s11, es11⟩ : ∃ zz : SB, f_X2_changeLength (pB_HI (pB_LO s10 (vp_updL (gB_LO s10) t.toNatClampNeg ((gB_LO s10) u.toNatClampNeg))) (vp_updL (gB_HI s10) t.toNatClampNeg ((gB_HI s10) u.toNatClampNeg))) u x1 = zz := ⟨_, rfl⟩
  rw [es11] at hP hD
  refine lv_aload_n hx hb dX2_trade_121 rfl (lv_at hl 6 rfl) ?_
  refine lv_iload_n hx hb dX2_trade_122 rfl (lv_at hl 8 rfl) ?_
  refine lv_iload hx hb dX2_trade_123 (lv_at hl 4 rfl) ?_
  refine cl_V (c_X2_changePull l D K a _ _ _ h_u) ⟨hx, hb, hml, hown, hts⟩ (cwV 2 hts gX2_trade_X2_changePull rfl rfl rfl (by decide +kernel) ⟨Nat.le_of_ble_eq_true rfl, Nat.le_of_ble_eq_true rfl⟩) hK hP hD hS hA rfl rfl rfl rfl hl.1 rfl (Nat.le_of_ble_eq_true rfl) (Nat.zero_le _) (Nat.zero_le _) dX2_trade_125 (fun H locs hP hD hS => ?_)
  obtain ⟨s12, es12⟩ : ∃ zz : SB, f_X2_changePull s11 u x2 = zz := ⟨_, rfl⟩
  rw [es12] at hP hD
  refine lv_aload_n hx hb dX2_trade_128 rfl (lv_at hl 6 rfl) ?_
  refine lv_iload_n hx hb dX2_trade_129 rfl (lv_at hl 8 rfl) ?_
  refine lv_iload hx hb dX2_trade_130 (lv_at hl 3 rfl) ?_
  refine cl_V (c_X2_changeKnots l D K a _ _ _ h_u) ⟨hx, hb, hml, hown, hts⟩ (cwV 2 hts gX2_trade_X2_changeKnots rfl rfl rfl (by decide +kernel) ⟨Nat.le_of_ble_eq_true rfl, Nat.le_of_ble_eq_true rfl⟩) hK hP hD hS hA rfl rfl rfl rfl hl.1 rfl (Nat.le_of_ble_eq_true rfl) (Nat.zero_le _) (Nat.zero_le _) dX2_trade_132 (fun H locs hP hD hS => ?_)
  obtain ⟨s13, es13⟩ : ∃ zz : SB, f_X2_changeKnots s12 u x3 = zz := ⟨_, rfl⟩
  rw [es13] at hP hD
  refine lv_aload_n hx hb dX2_trade_135 rfl (lv_at hl 6 rfl) ?_
  refine lv_iload_n hx hb dX2_trade_136 rfl (lv_at hl 8 rfl) ?_
  refine lv_lload hx hb dX2_trade_137 (lv_at hl 2 rfl) ?_
  refine cl_V (c_X2_changeTwist l D K a _ _ _ h_u) ⟨hx, hb, hml, hown, hts⟩ (cwV 2 hts gX2_trade_X2_changeTwist rfl rfl rfl (by decide +kernel) ⟨Nat.le_of_ble_eq_true rfl, Nat.le_of_ble_eq_true rfl⟩) hK hP hD hS hA rfl rfl rfl rfl hl.1 rfl (Nat.le_of_ble_eq_true rfl) (Nat.zero_le _) (Nat.zero_le _) dX2_trade_139 (fun H locs hP hD hS => ?_)
  obtain ⟨s14, es14⟩ : ∃ zz : SB, f_X2_changeTwist s13 u x4 = zz := ⟨_, rfl⟩
  rw [es14] at hP hD
  refine lv_aload_n hx hb dX2_trade_142 rfl (lv_at hl 6 rfl) ?_
  refine va_get (D := D) (ci := 1) (C := RX2) (T := TX2) (N := 15) hx hb hts hinX2 hown hK hP 0 rfl rfl 4 (by decide) k23 (fun _ h9 => h9) rfl dX2_trade_143 ?_
  refine lv_iload_n hx hb dX2_trade_146 rfl (lv_at hl 8 rfl) ?_
  refine lv_lload hx hb dX2_trade_147 (lv_at hl 1 rfl) ?_
  refine va_last hx hb hK hP hD hS 5 1 rfl rfl h_u dX2_trade_149 (fun H locs hP hD hS => ?_)
  have hP : va_P D vwCl (wB K a (pB_LO s14 (vp_updL (gB_LO s14) u.toNatClampNeg x5))) H := hP
  have hD : va_D A (wB K a (pB_LO s14 (vp_updL (gB_LO s14) u.toNatClampNeg x5))) := hD
  refine lv_aload_n hx hb dX2_trade_150 rfl (lv_at hl 6 rfl) ?_
  refine va_get (D := D) (ci := 1) (C := RX2) (T := TX2) (N := 15) hx hb hts hinX2 hown hK hP 0 rfl rfl 5 (by decide) k26 (fun _ h9 => h9) rfl dX2_trade_151 ?_
  refine lv_iload_n hx hb dX2_trade_154 rfl (lv_at hl 8 rfl) ?_
  refine lv_lload hx hb dX2_trade_155 (lv_at hl 0 rfl) ?_
  refine va_last hx hb hK hP hD hS 6 1 rfl rfl h_u dX2_trade_157 (fun H locs hP hD hS => ?_)
  have hP : va_P D vwCl (wB K a (pB_HI (pB_LO s14 (vp_updL (gB_LO s14) u.toNatClampNeg x5)) (vp_updL (gB_HI s14) u.toNatClampNeg x6))) H := hP
  have hD : va_D A (wB K a (pB_HI (pB_LO s14 (vp_updL (gB_LO s14) u.toNatClampNeg x5)) (vp_updL (gB_HI s14) u.toNatClampNeg x6))) := hD
  subst es14 es13 es12 es11 es10 es9 es8 es7 ex6 ex5 ex4 ex3 ex2 ex1
  exact rt_V (s1 := _) hx hb hr hlk hK hP hD hS (Eq.symm (rfl)) dX2_trade_158
