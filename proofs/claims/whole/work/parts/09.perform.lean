def f_X2_perform (s : SB) (n : Int32) (t : Int32) (u : Int32) : SB := if n = 0 then (let s1 := f_X2_flip s t; s1) else (if n = 1 then (let s2 := f_X2_stretch s t u; s2) else (if n = 2 then (let s3 := f_X2_ease s t u; s3) else (if n = 3 then (if 0 ≤ ((gB_L s) t.toNatClampNeg) then (if 0 ≤ ((gB_P s) t.toNatClampNeg) then (let s4 := f_X2_letToWhole s t 0 0; s4) else (let s5 := f_X2_letToWhole s t 0 1; s5)) else (if 0 ≤ ((gB_P s) t.toNatClampNeg) then (let s6 := f_X2_letToWhole s t 1 0; s6) else (let s7 := f_X2_letToWhole s t 1 1; s7))) else (if n = 4 then (if ((gB_L s) t.toNatClampNeg) < 0 then (if ((gB_P s) t.toNatClampNeg) < 0 then (let s8 := f_X2_letToWhole s t 0 0; s8) else (let s9 := f_X2_letToWhole s t 0 1; s9)) else (if ((gB_P s) t.toNatClampNeg) < 0 then (let s10 := f_X2_letToWhole s t 1 0; s10) else (let s11 := f_X2_letToWhole s t 1 1; s11))) else (if n = 5 then (let s12 := f_X2_letNear s t; s12) else (if n = 6 then (let s13 := f_X2_lean s t; s13) else (if n = 7 then (let s14 := f_X2_mirror s t u; s14) else (if n = 8 then (let s15 := f_X2_hold s t; s15) else (if n = 9 then (let s16 := f_X2_placeStops s t u; s16) else (if n = 10 then (let s17 := f_X2_gather s t; s17) else (if n = 11 then (let s18 := f_X2_trade s t u; s18) else (if n = 12 then (let s19 := f_X2_climb s t; s19) else (if n = 13 then (let s20 := f_X2_halve s t; s20) else (if n = 14 then (let s21 := f_X2_makeTwice s t; s21) else (if n = 15 then (let s22 := f_X2_give s t; s22) else (s))))))))))))))))
set_option maxHeartbeats 4000000 in
set_option maxRecDepth 100000 in
theorem c_X2_perform (l : Launch) (D : va_G) (K : ClassId × ClassId × ClassId) (a : Nat → Nat) (s : SB) (n : Int32) (t : Int32) (u : Int32) (h_t : vp_in t 8) (hu : n = 1 ∨ n = 2 ∨ n = 7 ∨ n = 9 ∨ n = 11 → vp_in u 8) : MetV l yX2_perform wsX2_perform { frames := 4, cells := 0, slots := 0, locals := 100 } D vwCl (tyK K) (wB K a) [.ref (a 0), .int n, .int t, .int u] s (f_X2_perform s n t u) := by
  intro sz0
  refine en_W (cc := cX2_perform) (maxL := 4) (ret := none) (Qc := fun A => va_Qv (fun u0 : SB => u0 = f_X2_perform s n t u) (bs_a D vwCl (tyK K) (wB K a) A) A) (by decide) rfl (Nat.le_of_ble_eq_true rfl) ?_ sz0
  intro p e st m below meth c ls A hx hb hr hml hts hown hlk hA hK hP hD hS hl
  have hown : st.vm.findClass RX2 = some m.cls := hown
  have hl : lv_has ls 4 [(0, .ref (a 0)), (1, .int n), (2, .int t), (3, .int u)] := hl
  have hinX2 : ∀ w ∈ u_ws RX2 TX2 15, w ∈ wsX2_perform := fun w h => List.mem_cons_of_mem _ (List.mem_append_right _ h)
  have k9 := hts (.fieldLink RX2 9 "PuppetBar" "lengths" "[J") (by decide +kernel)
  have k13 := hts (.fieldLink RX2 13 "PuppetBar" "pulls" "[I") (by decide +kernel)
  refine lv_iload_n hx hb dX2_perform_0 rfl (lv_at hl 1 rfl) ?_
  by_cases c_1_0 : n = 0
  · refine lv_tableIn (tgt := 80) (off := 79) hx hb dX2_perform_1 (by rw [c_1_0]; decide) (by rw [c_1_0]; decide) (by rw [c_1_0]; rfl) (by decide) ?_
    refine lv_aload_n hx hb dX2_perform_80 rfl (lv_at hl 0 rfl) ?_
    refine lv_iload_n hx hb dX2_perform_81 rfl (lv_at hl 2 rfl) ?_
    refine cl_V (c_X2_flip l D K a _ _ h_t) ⟨hx, hb, hml, hown, hts⟩ (cwV 1 hts gX2_perform_X2_flip rfl rfl rfl (by decide +kernel) ⟨Nat.le_of_ble_eq_true rfl, Nat.le_of_ble_eq_true rfl⟩) hK hP hD hS hA rfl rfl rfl rfl hl.1 rfl (Nat.le_of_ble_eq_true rfl) (Nat.zero_le _) (Nat.zero_le _) dX2_perform_82 (fun H locs hP hD hS => ?_)
    obtain ⟨s1, es1⟩ : ∃ zz : SB, f_X2_flip s t = zz := ⟨_, rfl⟩
    rw [es1] at hP hD
    refine lv_goto (tgt := 273) hx hb dX2_perform_85 (by decide) ?_
    subst es1
    exact rt_V (s1 := _) hx hb hr hlk hK hP hD hS (Eq.symm (Eq.trans (if_pos c_1_0) (rfl))) dX2_perform_273
  by_cases c_1_1 : n = 1
  · refine lv_tableIn (tgt := 88) (off := 87) hx hb dX2_perform_1 (by rw [c_1_1]; decide) (by rw [c_1_1]; decide) (by rw [c_1_1]; rfl) (by decide) ?_
    refine lv_aload_n hx hb dX2_perform_88 rfl (lv_at hl 0 rfl) ?_
    refine lv_iload_n hx hb dX2_perform_89 rfl (lv_at hl 2 rfl) ?_
    refine lv_iload_n hx hb dX2_perform_90 rfl (lv_at hl 3 rfl) ?_
    refine cl_V (c_X2_stretch l D K a _ _ _ h_t (hu (Or.inl c_1_1))) ⟨hx, hb, hml, hown, hts⟩ (cwV 2 hts gX2_perform_X2_stretch rfl rfl rfl (by decide +kernel) ⟨Nat.le_of_ble_eq_true rfl, Nat.le_of_ble_eq_true rfl⟩) hK hP hD hS hA rfl rfl rfl rfl hl.1 rfl (Nat.le_of_ble_eq_true rfl) (Nat.zero_le _) (Nat.zero_le _) dX2_perform_91 (fun H locs hP hD hS => ?_)
    obtain ⟨s2, es2⟩ : ∃ zz : SB, f_X2_stretch s t u = zz := ⟨_, rfl⟩
    rw [es2] at hP hD
    refine lv_goto (tgt := 273) hx hb dX2_perform_94 (by decide) ?_
    subst es2
    exact rt_V (s1 := _) hx hb hr hlk hK hP hD hS (Eq.symm (Eq.trans (if_neg c_1_0) (Eq.trans (if_pos c_1_1) (rfl)))) dX2_perform_273
  by_cases c_1_2 : n = 2
  · refine lv_tableIn (tgt := 97) (off := 96) hx hb dX2_perform_1 (by rw [c_1_2]; decide) (by rw [c_1_2]; decide) (by rw [c_1_2]; rfl) (by decide) ?_
    refine lv_aload_n hx hb dX2_perform_97 rfl (lv_at hl 0 rfl) ?_
    refine lv_iload_n hx hb dX2_perform_98 rfl (lv_at hl 2 rfl) ?_
    refine lv_iload_n hx hb dX2_perform_99 rfl (lv_at hl 3 rfl) ?_
    refine cl_V (c_X2_ease l D K a _ _ _ h_t (hu (Or.inr (Or.inl c_1_2)))) ⟨hx, hb, hml, hown, hts⟩ (cwV 2 hts gX2_perform_X2_ease rfl rfl rfl (by decide +kernel) ⟨Nat.le_of_ble_eq_true rfl, Nat.le_of_ble_eq_true rfl⟩) hK hP hD hS hA rfl rfl rfl rfl hl.1 rfl (Nat.le_of_ble_eq_true rfl) (Nat.zero_le _) (Nat.zero_le _) dX2_perform_100 (fun H locs hP hD hS => ?_)
    obtain ⟨s3, es3⟩ : ∃ zz : SB, f_X2_ease s t u = zz := ⟨_, rfl⟩
    rw [es3] at hP hD
    refine lv_goto (tgt := 273) hx hb dX2_perform_103 (by decide) ?_
    subst es3
    exact rt_V (s1 := _) hx hb hr hlk hK hP hD hS (Eq.symm (Eq.trans (if_neg c_1_0) (Eq.trans (if_neg c_1_1) (Eq.trans (if_pos c_1_2) (rfl))))) dX2_perform_273
  by_cases c_1_3 : n = 3
  · refine lv_tableIn (tgt := 106) (off := 105) hx hb dX2_perform_1 (by rw [c_1_3]; decide) (by rw [c_1_3]; decide) (by rw [c_1_3]; rfl) (by decide) ?_
    refine lv_aload_n hx hb dX2_perform_106 rfl (lv_at hl 0 rfl) ?_
    refine lv_iload_n hx hb dX2_perform_107 rfl (lv_at hl 2 rfl) ?_
    refine lv_aload_n hx hb dX2_perform_108 rfl (lv_at hl 0 rfl) ?_
    refine va_get (D := D) (ci := 1) (C := RX2) (T := TX2) (N := 15) hx hb hts hinX2 hown hK hP 0 rfl rfl 0 (by decide) k9 (fun _ h9 => h9) rfl dX2_perform_109 ?_
    refine lv_iload_n hx hb dX2_perform_112 rfl (lv_at hl 2 rfl) ?_
    refine va_lald hx hb hK hP 1 1 rfl rfl h_t dX2_perform_113 ?_
    refine lv_lconst (v := 0) hx hb dX2_perform_114 (by decide) ?_
    refine W.lcmp hx hb dX2_perform_115 ?_
    refine lv_if_ge (tgt := 123) hx hb dX2_perform_116 (by decide) (fun c_116 => ?_) (fun c_116 => ?_)
    · have c_116 := (lg_cmp_ge _ _).mp c_116
      refine lv_iconst (v := 0) hx hb dX2_perform_123 (by decide) ?_
      refine lv_aload_n hx hb dX2_perform_124 rfl (lv_at hl 0 rfl) ?_
      refine va_get (D := D) (ci := 1) (C := RX2) (T := TX2) (N := 15) hx hb hts hinX2 hown hK hP 0 rfl rfl 1 (by decide) k13 (fun _ h9 => h9) rfl dX2_perform_125 ?_
      refine lv_iload_n hx hb dX2_perform_128 rfl (lv_at hl 2 rfl) ?_
      refine va_iald hx hb hK hP 2 0 rfl rfl h_t dX2_perform_129 ?_
      refine lv_if_ge (tgt := 137) hx hb dX2_perform_130 (by decide) (fun c_130 => ?_) (fun c_130 => ?_)
      · refine lv_iconst (v := 0) hx hb dX2_perform_137 (by decide) ?_
        refine cl_V (c_X2_letToWhole l D K a _ _ _ _ h_t) ⟨hx, hb, hml, hown, hts⟩ (cwV 3 hts gX2_perform_X2_letToWhole rfl rfl rfl (by decide +kernel) ⟨Nat.le_of_ble_eq_true rfl, Nat.le_of_ble_eq_true rfl⟩) hK hP hD hS hA rfl rfl rfl rfl hl.1 rfl (Nat.le_of_ble_eq_true rfl) (Nat.zero_le _) (Nat.zero_le _) dX2_perform_138 (fun H locs hP hD hS => ?_)
        obtain ⟨s4, es4⟩ : ∃ zz : SB, f_X2_letToWhole s t 0 0 = zz := ⟨_, rfl⟩
        rw [es4] at hP hD
        refine lv_goto (tgt := 273) hx hb dX2_perform_141 (by decide) ?_
        subst es4
        exact rt_V (s1 := _) hx hb hr hlk hK hP hD hS (Eq.symm (Eq.trans (if_neg c_1_0) (Eq.trans (if_neg c_1_1) (Eq.trans (if_neg c_1_2) (Eq.trans (if_pos c_1_3) (Eq.trans (if_pos c_116) (Eq.trans (if_pos c_130) (rfl)))))))) dX2_perform_273
      · refine lv_iconst (v := 1) hx hb dX2_perform_133 (by decide) ?_
        refine lv_goto (tgt := 138) hx hb dX2_perform_134 (by decide) ?_
        refine cl_V (c_X2_letToWhole l D K a _ _ _ _ h_t) ⟨hx, hb, hml, hown, hts⟩ (cwV 3 hts gX2_perform_X2_letToWhole rfl rfl rfl (by decide +kernel) ⟨Nat.le_of_ble_eq_true rfl, Nat.le_of_ble_eq_true rfl⟩) hK hP hD hS hA rfl rfl rfl rfl hl.1 rfl (Nat.le_of_ble_eq_true rfl) (Nat.zero_le _) (Nat.zero_le _) dX2_perform_138 (fun H locs hP hD hS => ?_)
        obtain ⟨s5, es5⟩ : ∃ zz : SB, f_X2_letToWhole s t 0 1 = zz := ⟨_, rfl⟩
        rw [es5] at hP hD
        refine lv_goto (tgt := 273) hx hb dX2_perform_141 (by decide) ?_
        subst es5
        exact rt_V (s1 := _) hx hb hr hlk hK hP hD hS (Eq.symm (Eq.trans (if_neg c_1_0) (Eq.trans (if_neg c_1_1) (Eq.trans (if_neg c_1_2) (Eq.trans (if_pos c_1_3) (Eq.trans (if_pos c_116) (Eq.trans (if_neg c_130) (rfl)))))))) dX2_perform_273
    · have c_116 := mt (lg_cmp_ge _ _).mpr c_116
      refine lv_iconst (v := 1) hx hb dX2_perform_119 (by decide) ?_
      refine lv_goto (tgt := 124) hx hb dX2_perform_120 (by decide) ?_
      refine lv_aload_n hx hb dX2_perform_124 rfl (lv_at hl 0 rfl) ?_
      refine va_get (D := D) (ci := 1) (C := RX2) (T := TX2) (N := 15) hx hb hts hinX2 hown hK hP 0 rfl rfl 1 (by decide) k13 (fun _ h9 => h9) rfl dX2_perform_125 ?_
      refine lv_iload_n hx hb dX2_perform_128 rfl (lv_at hl 2 rfl) ?_
      refine va_iald hx hb hK hP 2 0 rfl rfl h_t dX2_perform_129 ?_
      refine lv_if_ge (tgt := 137) hx hb dX2_perform_130 (by decide) (fun c_130 => ?_) (fun c_130 => ?_)
      · refine lv_iconst (v := 0) hx hb dX2_perform_137 (by decide) ?_
        refine cl_V (c_X2_letToWhole l D K a _ _ _ _ h_t) ⟨hx, hb, hml, hown, hts⟩ (cwV 3 hts gX2_perform_X2_letToWhole rfl rfl rfl (by decide +kernel) ⟨Nat.le_of_ble_eq_true rfl, Nat.le_of_ble_eq_true rfl⟩) hK hP hD hS hA rfl rfl rfl rfl hl.1 rfl (Nat.le_of_ble_eq_true rfl) (Nat.zero_le _) (Nat.zero_le _) dX2_perform_138 (fun H locs hP hD hS => ?_)
        obtain ⟨s6, es6⟩ : ∃ zz : SB, f_X2_letToWhole s t 1 0 = zz := ⟨_, rfl⟩
        rw [es6] at hP hD
        refine lv_goto (tgt := 273) hx hb dX2_perform_141 (by decide) ?_
        subst es6
        exact rt_V (s1 := _) hx hb hr hlk hK hP hD hS (Eq.symm (Eq.trans (if_neg c_1_0) (Eq.trans (if_neg c_1_1) (Eq.trans (if_neg c_1_2) (Eq.trans (if_pos c_1_3) (Eq.trans (if_neg c_116) (Eq.trans (if_pos c_130) (rfl)))))))) dX2_perform_273
      · refine lv_iconst (v := 1) hx hb dX2_perform_133 (by decide) ?_
        refine lv_goto (tgt := 138) hx hb dX2_perform_134 (by decide) ?_
        refine cl_V (c_X2_letToWhole l D K a _ _ _ _ h_t) ⟨hx, hb, hml, hown, hts⟩ (cwV 3 hts gX2_perform_X2_letToWhole rfl rfl rfl (by decide +kernel) ⟨Nat.le_of_ble_eq_true rfl, Nat.le_of_ble_eq_true rfl⟩) hK hP hD hS hA rfl rfl rfl rfl hl.1 rfl (Nat.le_of_ble_eq_true rfl) (Nat.zero_le _) (Nat.zero_le _) dX2_perform_138 (fun H locs hP hD hS => ?_)
        obtain ⟨s7, es7⟩ : ∃ zz : SB, f_X2_letToWhole s t 1 1 = zz := ⟨_, rfl⟩
        rw [es7] at hP hD
        refine lv_goto (tgt := 273) hx hb dX2_perform_141 (by decide) ?_
        subst es7
        exact rt_V (s1 := _) hx hb hr hlk hK hP hD hS (Eq.symm (Eq.trans (if_neg c_1_0) (Eq.trans (if_neg c_1_1) (Eq.trans (if_neg c_1_2) (Eq.trans (if_pos c_1_3) (Eq.trans (if_neg c_116) (Eq.trans (if_neg c_130) (rfl)))))))) dX2_perform_273
  by_cases c_1_4 : n = 4
  · refine lv_tableIn (tgt := 144) (off := 143) hx hb dX2_perform_1 (by rw [c_1_4]; decide) (by rw [c_1_4]; decide) (by rw [c_1_4]; rfl) (by decide) ?_
    refine lv_aload_n hx hb dX2_perform_144 rfl (lv_at hl 0 rfl) ?_
    refine lv_iload_n hx hb dX2_perform_145 rfl (lv_at hl 2 rfl) ?_
    refine lv_aload_n hx hb dX2_perform_146 rfl (lv_at hl 0 rfl) ?_
    refine va_get (D := D) (ci := 1) (C := RX2) (T := TX2) (N := 15) hx hb hts hinX2 hown hK hP 0 rfl rfl 0 (by decide) k9 (fun _ h9 => h9) rfl dX2_perform_147 ?_
    refine lv_iload_n hx hb dX2_perform_150 rfl (lv_at hl 2 rfl) ?_
    refine va_lald hx hb hK hP 1 1 rfl rfl h_t dX2_perform_151 ?_
    refine lv_lconst (v := 0) hx hb dX2_perform_152 (by decide) ?_
    refine W.lcmp hx hb dX2_perform_153 ?_
    refine lv_if_lt (tgt := 161) hx hb dX2_perform_154 (by decide) (fun c_154 => ?_) (fun c_154 => ?_)
    · have c_154 := (lg_cmp_lt _ _).mp c_154
      refine lv_iconst (v := 0) hx hb dX2_perform_161 (by decide) ?_
      refine lv_aload_n hx hb dX2_perform_162 rfl (lv_at hl 0 rfl) ?_
      refine va_get (D := D) (ci := 1) (C := RX2) (T := TX2) (N := 15) hx hb hts hinX2 hown hK hP 0 rfl rfl 1 (by decide) k13 (fun _ h9 => h9) rfl dX2_perform_163 ?_
      refine lv_iload_n hx hb dX2_perform_166 rfl (lv_at hl 2 rfl) ?_
      refine va_iald hx hb hK hP 2 0 rfl rfl h_t dX2_perform_167 ?_
      refine lv_if_lt (tgt := 175) hx hb dX2_perform_168 (by decide) (fun c_168 => ?_) (fun c_168 => ?_)
      · refine lv_iconst (v := 0) hx hb dX2_perform_175 (by decide) ?_
        refine cl_V (c_X2_letToWhole l D K a _ _ _ _ h_t) ⟨hx, hb, hml, hown, hts⟩ (cwV 3 hts gX2_perform_X2_letToWhole rfl rfl rfl (by decide +kernel) ⟨Nat.le_of_ble_eq_true rfl, Nat.le_of_ble_eq_true rfl⟩) hK hP hD hS hA rfl rfl rfl rfl hl.1 rfl (Nat.le_of_ble_eq_true rfl) (Nat.zero_le _) (Nat.zero_le _) dX2_perform_176 (fun H locs hP hD hS => ?_)
        obtain ⟨s8, es8⟩ : ∃ zz : SB, f_X2_letToWhole s t 0 0 = zz := ⟨_, rfl⟩
        rw [es8] at hP hD
        refine lv_goto (tgt := 273) hx hb dX2_perform_179 (by decide) ?_
        subst es8
        exact rt_V (s1 := _) hx hb hr hlk hK hP hD hS (Eq.symm (Eq.trans (if_neg c_1_0) (Eq.trans (if_neg c_1_1) (Eq.trans (if_neg c_1_2) (Eq.trans (if_neg c_1_3) (Eq.trans (if_pos c_1_4) (Eq.trans (if_pos c_154) (Eq.trans (if_pos c_168) (rfl))))))))) dX2_perform_273
      · refine lv_iconst (v := 1) hx hb dX2_perform_171 (by decide) ?_
        refine lv_goto (tgt := 176) hx hb dX2_perform_172 (by decide) ?_
        refine cl_V (c_X2_letToWhole l D K a _ _ _ _ h_t) ⟨hx, hb, hml, hown, hts⟩ (cwV 3 hts gX2_perform_X2_letToWhole rfl rfl rfl (by decide +kernel) ⟨Nat.le_of_ble_eq_true rfl, Nat.le_of_ble_eq_true rfl⟩) hK hP hD hS hA rfl rfl rfl rfl hl.1 rfl (Nat.le_of_ble_eq_true rfl) (Nat.zero_le _) (Nat.zero_le _) dX2_perform_176 (fun H locs hP hD hS => ?_)
        obtain ⟨s9, es9⟩ : ∃ zz : SB, f_X2_letToWhole s t 0 1 = zz := ⟨_, rfl⟩
        rw [es9] at hP hD
        refine lv_goto (tgt := 273) hx hb dX2_perform_179 (by decide) ?_
        subst es9
        exact rt_V (s1 := _) hx hb hr hlk hK hP hD hS (Eq.symm (Eq.trans (if_neg c_1_0) (Eq.trans (if_neg c_1_1) (Eq.trans (if_neg c_1_2) (Eq.trans (if_neg c_1_3) (Eq.trans (if_pos c_1_4) (Eq.trans (if_pos c_154) (Eq.trans (if_neg c_168) (rfl))))))))) dX2_perform_273
    · have c_154 := mt (lg_cmp_lt _ _).mpr c_154
      refine lv_iconst (v := 1) hx hb dX2_perform_157 (by decide) ?_
      refine lv_goto (tgt := 162) hx hb dX2_perform_158 (by decide) ?_
      refine lv_aload_n hx hb dX2_perform_162 rfl (lv_at hl 0 rfl) ?_
      refine va_get (D := D) (ci := 1) (C := RX2) (T := TX2) (N := 15) hx hb hts hinX2 hown hK hP 0 rfl rfl 1 (by decide) k13 (fun _ h9 => h9) rfl dX2_perform_163 ?_
      refine lv_iload_n hx hb dX2_perform_166 rfl (lv_at hl 2 rfl) ?_
      refine va_iald hx hb hK hP 2 0 rfl rfl h_t dX2_perform_167 ?_
      refine lv_if_lt (tgt := 175) hx hb dX2_perform_168 (by decide) (fun c_168 => ?_) (fun c_168 => ?_)
      · refine lv_iconst (v := 0) hx hb dX2_perform_175 (by decide) ?_
        refine cl_V (c_X2_letToWhole l D K a _ _ _ _ h_t) ⟨hx, hb, hml, hown, hts⟩ (cwV 3 hts gX2_perform_X2_letToWhole rfl rfl rfl (by decide +kernel) ⟨Nat.le_of_ble_eq_true rfl, Nat.le_of_ble_eq_true rfl⟩) hK hP hD hS hA rfl rfl rfl rfl hl.1 rfl (Nat.le_of_ble_eq_true rfl) (Nat.zero_le _) (Nat.zero_le _) dX2_perform_176 (fun H locs hP hD hS => ?_)
        obtain ⟨s10, es10⟩ : ∃ zz : SB, f_X2_letToWhole s t 1 0 = zz := ⟨_, rfl⟩
        rw [es10] at hP hD
        refine lv_goto (tgt := 273) hx hb dX2_perform_179 (by decide) ?_
        subst es10
        exact rt_V (s1 := _) hx hb hr hlk hK hP hD hS (Eq.symm (Eq.trans (if_neg c_1_0) (Eq.trans (if_neg c_1_1) (Eq.trans (if_neg c_1_2) (Eq.trans (if_neg c_1_3) (Eq.trans (if_pos c_1_4) (Eq.trans (if_neg c_154) (Eq.trans (if_pos c_168) (rfl))))))))) dX2_perform_273
      · refine lv_iconst (v := 1) hx hb dX2_perform_171 (by decide) ?_
        refine lv_goto (tgt := 176) hx hb dX2_perform_172 (by decide) ?_
        refine cl_V (c_X2_letToWhole l D K a _ _ _ _ h_t) ⟨hx, hb, hml, hown, hts⟩ (cwV 3 hts gX2_perform_X2_letToWhole rfl rfl rfl (by decide +kernel) ⟨Nat.le_of_ble_eq_true rfl, Nat.le_of_ble_eq_true rfl⟩) hK hP hD hS hA rfl rfl rfl rfl hl.1 rfl (Nat.le_of_ble_eq_true rfl) (Nat.zero_le _) (Nat.zero_le _) dX2_perform_176 (fun H locs hP hD hS => ?_)
        obtain ⟨s11, es11⟩ : ∃ zz : SB, f_X2_letToWhole s t 1 1 = zz := ⟨_, rfl⟩
        rw [es11] at hP hD
        refine lv_goto (tgt := 273) hx hb dX2_perform_179 (by decide) ?_
        subst es11
        exact rt_V (s1 := _) hx hb hr hlk hK hP hD hS (Eq.symm (Eq.trans (if_neg c_1_0) (Eq.trans (if_neg c_1_1) (Eq.trans (if_neg c_1_2) (Eq.trans (if_neg c_1_3) (Eq.trans (if_pos c_1_4) (Eq.trans (if_neg c_154) (Eq.trans (if_neg c_168) (rfl))))))))) dX2_perform_273
  by_cases c_1_5 : n = 5
  · refine lv_tableIn (tgt := 182) (off := 181) hx hb dX2_perform_1 (by rw [c_1_5]; decide) (by rw [c_1_5]; decide) (by rw [c_1_5]; rfl) (by decide) ?_
    refine lv_aload_n hx hb dX2_perform_182 rfl (lv_at hl 0 rfl) ?_
    refine lv_iload_n hx hb dX2_perform_183 rfl (lv_at hl 2 rfl) ?_
    refine cl_V (c_X2_letNear l D K a _ _ h_t) ⟨hx, hb, hml, hown, hts⟩ (cwV 1 hts gX2_perform_X2_letNear rfl rfl rfl (by decide +kernel) ⟨Nat.le_of_ble_eq_true rfl, Nat.le_of_ble_eq_true rfl⟩) hK hP hD hS hA rfl rfl rfl rfl hl.1 rfl (Nat.le_of_ble_eq_true rfl) (Nat.zero_le _) (Nat.zero_le _) dX2_perform_184 (fun H locs hP hD hS => ?_)
    obtain ⟨s12, es12⟩ : ∃ zz : SB, f_X2_letNear s t = zz := ⟨_, rfl⟩
    rw [es12] at hP hD
    refine lv_goto (tgt := 273) hx hb dX2_perform_187 (by decide) ?_
    subst es12
    exact rt_V (s1 := _) hx hb hr hlk hK hP hD hS (Eq.symm (Eq.trans (if_neg c_1_0) (Eq.trans (if_neg c_1_1) (Eq.trans (if_neg c_1_2) (Eq.trans (if_neg c_1_3) (Eq.trans (if_neg c_1_4) (Eq.trans (if_pos c_1_5) (rfl)))))))) dX2_perform_273
  by_cases c_1_6 : n = 6
  · refine lv_tableIn (tgt := 190) (off := 189) hx hb dX2_perform_1 (by rw [c_1_6]; decide) (by rw [c_1_6]; decide) (by rw [c_1_6]; rfl) (by decide) ?_
    refine lv_aload_n hx hb dX2_perform_190 rfl (lv_at hl 0 rfl) ?_
    refine lv_iload_n hx hb dX2_perform_191 rfl (lv_at hl 2 rfl) ?_
    refine cl_V (c_X2_lean l D K a _ _ h_t) ⟨hx, hb, hml, hown, hts⟩ (cwV 1 hts gX2_perform_X2_lean rfl rfl rfl (by decide +kernel) ⟨Nat.le_of_ble_eq_true rfl, Nat.le_of_ble_eq_true rfl⟩) hK hP hD hS hA rfl rfl rfl rfl hl.1 rfl (Nat.le_of_ble_eq_true rfl) (Nat.zero_le _) (Nat.zero_le _) dX2_perform_192 (fun H locs hP hD hS => ?_)
    obtain ⟨s13, es13⟩ : ∃ zz : SB, f_X2_lean s t = zz := ⟨_, rfl⟩
    rw [es13] at hP hD
    refine lv_goto (tgt := 273) hx hb dX2_perform_195 (by decide) ?_
    subst es13
    exact rt_V (s1 := _) hx hb hr hlk hK hP hD hS (Eq.symm (Eq.trans (if_neg c_1_0) (Eq.trans (if_neg c_1_1) (Eq.trans (if_neg c_1_2) (Eq.trans (if_neg c_1_3) (Eq.trans (if_neg c_1_4) (Eq.trans (if_neg c_1_5) (Eq.trans (if_pos c_1_6) (rfl))))))))) dX2_perform_273
  by_cases c_1_7 : n = 7
  · refine lv_tableIn (tgt := 198) (off := 197) hx hb dX2_perform_1 (by rw [c_1_7]; decide) (by rw [c_1_7]; decide) (by rw [c_1_7]; rfl) (by decide) ?_
    refine lv_aload_n hx hb dX2_perform_198 rfl (lv_at hl 0 rfl) ?_
    refine lv_iload_n hx hb dX2_perform_199 rfl (lv_at hl 2 rfl) ?_
    refine lv_iload_n hx hb dX2_perform_200 rfl (lv_at hl 3 rfl) ?_
    refine cl_V (c_X2_mirror l D K a _ _ _ h_t (hu (Or.inr (Or.inr (Or.inl c_1_7))))) ⟨hx, hb, hml, hown, hts⟩ (cwV 2 hts gX2_perform_X2_mirror rfl rfl rfl (by decide +kernel) ⟨Nat.le_of_ble_eq_true rfl, Nat.le_of_ble_eq_true rfl⟩) hK hP hD hS hA rfl rfl rfl rfl hl.1 rfl (Nat.le_of_ble_eq_true rfl) (Nat.zero_le _) (Nat.zero_le _) dX2_perform_201 (fun H locs hP hD hS => ?_)
    obtain ⟨s14, es14⟩ : ∃ zz : SB, f_X2_mirror s t u = zz := ⟨_, rfl⟩
    rw [es14] at hP hD
    refine lv_goto (tgt := 273) hx hb dX2_perform_204 (by decide) ?_
    subst es14
    exact rt_V (s1 := _) hx hb hr hlk hK hP hD hS (Eq.symm (Eq.trans (if_neg c_1_0) (Eq.trans (if_neg c_1_1) (Eq.trans (if_neg c_1_2) (Eq.trans (if_neg c_1_3) (Eq.trans (if_neg c_1_4) (Eq.trans (if_neg c_1_5) (Eq.trans (if_neg c_1_6) (Eq.trans (if_pos c_1_7) (rfl)))))))))) dX2_perform_273
  by_cases c_1_8 : n = 8
  · refine lv_tableIn (tgt := 207) (off := 206) hx hb dX2_perform_1 (by rw [c_1_8]; decide) (by rw [c_1_8]; decide) (by rw [c_1_8]; rfl) (by decide) ?_
    refine lv_aload_n hx hb dX2_perform_207 rfl (lv_at hl 0 rfl) ?_
    refine lv_iload_n hx hb dX2_perform_208 rfl (lv_at hl 2 rfl) ?_
    refine cl_V (c_X2_hold l D K a _ _ h_t) ⟨hx, hb, hml, hown, hts⟩ (cwV 1 hts gX2_perform_X2_hold rfl rfl rfl (by decide +kernel) ⟨Nat.le_of_ble_eq_true rfl, Nat.le_of_ble_eq_true rfl⟩) hK hP hD hS hA rfl rfl rfl rfl hl.1 rfl (Nat.le_of_ble_eq_true rfl) (Nat.zero_le _) (Nat.zero_le _) dX2_perform_209 (fun H locs hP hD hS => ?_)
    obtain ⟨s15, es15⟩ : ∃ zz : SB, f_X2_hold s t = zz := ⟨_, rfl⟩
    rw [es15] at hP hD
    refine lv_goto (tgt := 273) hx hb dX2_perform_212 (by decide) ?_
    subst es15
    exact rt_V (s1 := _) hx hb hr hlk hK hP hD hS (Eq.symm (Eq.trans (if_neg c_1_0) (Eq.trans (if_neg c_1_1) (Eq.trans (if_neg c_1_2) (Eq.trans (if_neg c_1_3) (Eq.trans (if_neg c_1_4) (Eq.trans (if_neg c_1_5) (Eq.trans (if_neg c_1_6) (Eq.trans (if_neg c_1_7) (Eq.trans (if_pos c_1_8) (rfl))))))))))) dX2_perform_273
  by_cases c_1_9 : n = 9
  · refine lv_tableIn (tgt := 215) (off := 214) hx hb dX2_perform_1 (by rw [c_1_9]; decide) (by rw [c_1_9]; decide) (by rw [c_1_9]; rfl) (by decide) ?_
    refine lv_aload_n hx hb dX2_perform_215 rfl (lv_at hl 0 rfl) ?_
    refine lv_iload_n hx hb dX2_perform_216 rfl (lv_at hl 2 rfl) ?_
    refine lv_iload_n hx hb dX2_perform_217 rfl (lv_at hl 3 rfl) ?_
    refine cl_V (c_X2_placeStops l D K a _ _ _ h_t (hu (Or.inr (Or.inr (Or.inr (Or.inl c_1_9)))))) ⟨hx, hb, hml, hown, hts⟩ (cwV 2 hts gX2_perform_X2_placeStops rfl rfl rfl (by decide +kernel) ⟨Nat.le_of_ble_eq_true rfl, Nat.le_of_ble_eq_true rfl⟩) hK hP hD hS hA rfl rfl rfl rfl hl.1 rfl (Nat.le_of_ble_eq_true rfl) (Nat.zero_le _) (Nat.zero_le _) dX2_perform_218 (fun H locs hP hD hS => ?_)
    obtain ⟨s16, es16⟩ : ∃ zz : SB, f_X2_placeStops s t u = zz := ⟨_, rfl⟩
    rw [es16] at hP hD
    refine lv_goto (tgt := 273) hx hb dX2_perform_221 (by decide) ?_
    subst es16
    exact rt_V (s1 := _) hx hb hr hlk hK hP hD hS (Eq.symm (Eq.trans (if_neg c_1_0) (Eq.trans (if_neg c_1_1) (Eq.trans (if_neg c_1_2) (Eq.trans (if_neg c_1_3) (Eq.trans (if_neg c_1_4) (Eq.trans (if_neg c_1_5) (Eq.trans (if_neg c_1_6) (Eq.trans (if_neg c_1_7) (Eq.trans (if_neg c_1_8) (Eq.trans (if_pos c_1_9) (rfl)))))))))))) dX2_perform_273
  by_cases c_1_10 : n = 10
  · refine lv_tableIn (tgt := 224) (off := 223) hx hb dX2_perform_1 (by rw [c_1_10]; decide) (by rw [c_1_10]; decide) (by rw [c_1_10]; rfl) (by decide) ?_
    refine lv_aload_n hx hb dX2_perform_224 rfl (lv_at hl 0 rfl) ?_
    refine lv_iload_n hx hb dX2_perform_225 rfl (lv_at hl 2 rfl) ?_
    refine cl_V (c_X2_gather l D K a _ _ h_t) ⟨hx, hb, hml, hown, hts⟩ (cwV 1 hts gX2_perform_X2_gather rfl rfl rfl (by decide +kernel) ⟨Nat.le_of_ble_eq_true rfl, Nat.le_of_ble_eq_true rfl⟩) hK hP hD hS hA rfl rfl rfl rfl hl.1 rfl (Nat.le_of_ble_eq_true rfl) (Nat.zero_le _) (Nat.zero_le _) dX2_perform_226 (fun H locs hP hD hS => ?_)
    obtain ⟨s17, es17⟩ : ∃ zz : SB, f_X2_gather s t = zz := ⟨_, rfl⟩
    rw [es17] at hP hD
    refine lv_goto (tgt := 273) hx hb dX2_perform_229 (by decide) ?_
    subst es17
    exact rt_V (s1 := _) hx hb hr hlk hK hP hD hS (Eq.symm (Eq.trans (if_neg c_1_0) (Eq.trans (if_neg c_1_1) (Eq.trans (if_neg c_1_2) (Eq.trans (if_neg c_1_3) (Eq.trans (if_neg c_1_4) (Eq.trans (if_neg c_1_5) (Eq.trans (if_neg c_1_6) (Eq.trans (if_neg c_1_7) (Eq.trans (if_neg c_1_8) (Eq.trans (if_neg c_1_9) (Eq.trans (if_pos c_1_10) (rfl))))))))))))) dX2_perform_273
  by_cases c_1_11 : n = 11
  · refine lv_tableIn (tgt := 232) (off := 231) hx hb dX2_perform_1 (by rw [c_1_11]; decide) (by rw [c_1_11]; decide) (by rw [c_1_11]; rfl) (by decide) ?_
    refine lv_aload_n hx hb dX2_perform_232 rfl (lv_at hl 0 rfl) ?_
    refine lv_iload_n hx hb dX2_perform_233 rfl (lv_at hl 2 rfl) ?_
    refine lv_iload_n hx hb dX2_perform_234 rfl (lv_at hl 3 rfl) ?_
    refine cl_V (c_X2_trade l D K a _ _ _ h_t (hu (Or.inr (Or.inr (Or.inr (Or.inr c_1_11)))))) ⟨hx, hb, hml, hown, hts⟩ (cwV 2 hts gX2_perform_X2_trade rfl rfl rfl (by decide +kernel) ⟨Nat.le_of_ble_eq_true rfl, Nat.le_of_ble_eq_true rfl⟩) hK hP hD hS hA rfl rfl rfl rfl hl.1 rfl (Nat.le_of_ble_eq_true rfl) (Nat.zero_le _) (Nat.zero_le _) dX2_perform_235 (fun H locs hP hD hS => ?_)
    obtain ⟨s18, es18⟩ : ∃ zz : SB, f_X2_trade s t u = zz := ⟨_, rfl⟩
    rw [es18] at hP hD
    refine lv_goto (tgt := 273) hx hb dX2_perform_238 (by decide) ?_
    subst es18
    exact rt_V (s1 := _) hx hb hr hlk hK hP hD hS (Eq.symm (Eq.trans (if_neg c_1_0) (Eq.trans (if_neg c_1_1) (Eq.trans (if_neg c_1_2) (Eq.trans (if_neg c_1_3) (Eq.trans (if_neg c_1_4) (Eq.trans (if_neg c_1_5) (Eq.trans (if_neg c_1_6) (Eq.trans (if_neg c_1_7) (Eq.trans (if_neg c_1_8) (Eq.trans (if_neg c_1_9) (Eq.trans (if_neg c_1_10) (Eq.trans (if_pos c_1_11) (rfl)))))))))))))) dX2_perform_273
  by_cases c_1_12 : n = 12
  · refine lv_tableIn (tgt := 241) (off := 240) hx hb dX2_perform_1 (by rw [c_1_12]; decide) (by rw [c_1_12]; decide) (by rw [c_1_12]; rfl) (by decide) ?_
    refine lv_aload_n hx hb dX2_perform_241 rfl (lv_at hl 0 rfl) ?_
    refine lv_iload_n hx hb dX2_perform_242 rfl (lv_at hl 2 rfl) ?_
    refine cl_V (c_X2_climb l D K a _ _ h_t) ⟨hx, hb, hml, hown, hts⟩ (cwV 1 hts gX2_perform_X2_climb rfl rfl rfl (by decide +kernel) ⟨Nat.le_of_ble_eq_true rfl, Nat.le_of_ble_eq_true rfl⟩) hK hP hD hS hA rfl rfl rfl rfl hl.1 rfl (Nat.le_of_ble_eq_true rfl) (Nat.zero_le _) (Nat.zero_le _) dX2_perform_243 (fun H locs hP hD hS => ?_)
    obtain ⟨s19, es19⟩ : ∃ zz : SB, f_X2_climb s t = zz := ⟨_, rfl⟩
    rw [es19] at hP hD
    refine lv_goto (tgt := 273) hx hb dX2_perform_246 (by decide) ?_
    subst es19
    exact rt_V (s1 := _) hx hb hr hlk hK hP hD hS (Eq.symm (Eq.trans (if_neg c_1_0) (Eq.trans (if_neg c_1_1) (Eq.trans (if_neg c_1_2) (Eq.trans (if_neg c_1_3) (Eq.trans (if_neg c_1_4) (Eq.trans (if_neg c_1_5) (Eq.trans (if_neg c_1_6) (Eq.trans (if_neg c_1_7) (Eq.trans (if_neg c_1_8) (Eq.trans (if_neg c_1_9) (Eq.trans (if_neg c_1_10) (Eq.trans (if_neg c_1_11) (Eq.trans (if_pos c_1_12) (rfl))))))))))))))) dX2_perform_273
  by_cases c_1_13 : n = 13
  · refine lv_tableIn (tgt := 249) (off := 248) hx hb dX2_perform_1 (by rw [c_1_13]; decide) (by rw [c_1_13]; decide) (by rw [c_1_13]; rfl) (by decide) ?_
    refine lv_aload_n hx hb dX2_perform_249 rfl (lv_at hl 0 rfl) ?_
    refine lv_iload_n hx hb dX2_perform_250 rfl (lv_at hl 2 rfl) ?_
    refine cl_V (c_X2_halve l D K a _ _ h_t) ⟨hx, hb, hml, hown, hts⟩ (cwV 1 hts gX2_perform_X2_halve rfl rfl rfl (by decide +kernel) ⟨Nat.le_of_ble_eq_true rfl, Nat.le_of_ble_eq_true rfl⟩) hK hP hD hS hA rfl rfl rfl rfl hl.1 rfl (Nat.le_of_ble_eq_true rfl) (Nat.zero_le _) (Nat.zero_le _) dX2_perform_251 (fun H locs hP hD hS => ?_)
    obtain ⟨s20, es20⟩ : ∃ zz : SB, f_X2_halve s t = zz := ⟨_, rfl⟩
    rw [es20] at hP hD
    refine lv_goto (tgt := 273) hx hb dX2_perform_254 (by decide) ?_
    subst es20
    exact rt_V (s1 := _) hx hb hr hlk hK hP hD hS (Eq.symm (Eq.trans (if_neg c_1_0) (Eq.trans (if_neg c_1_1) (Eq.trans (if_neg c_1_2) (Eq.trans (if_neg c_1_3) (Eq.trans (if_neg c_1_4) (Eq.trans (if_neg c_1_5) (Eq.trans (if_neg c_1_6) (Eq.trans (if_neg c_1_7) (Eq.trans (if_neg c_1_8) (Eq.trans (if_neg c_1_9) (Eq.trans (if_neg c_1_10) (Eq.trans (if_neg c_1_11) (Eq.trans (if_neg c_1_12) (Eq.trans (if_pos c_1_13) (rfl)))))))))))))))) dX2_perform_273
  by_cases c_1_14 : n = 14
  · refine lv_tableIn (tgt := 257) (off := 256) hx hb dX2_perform_1 (by rw [c_1_14]; decide) (by rw [c_1_14]; decide) (by rw [c_1_14]; rfl) (by decide) ?_
    refine lv_aload_n hx hb dX2_perform_257 rfl (lv_at hl 0 rfl) ?_
    refine lv_iload_n hx hb dX2_perform_258 rfl (lv_at hl 2 rfl) ?_
    refine cl_V (c_X2_makeTwice l D K a _ _ h_t) ⟨hx, hb, hml, hown, hts⟩ (cwV 1 hts gX2_perform_X2_makeTwice rfl rfl rfl (by decide +kernel) ⟨Nat.le_of_ble_eq_true rfl, Nat.le_of_ble_eq_true rfl⟩) hK hP hD hS hA rfl rfl rfl rfl hl.1 rfl (Nat.le_of_ble_eq_true rfl) (Nat.zero_le _) (Nat.zero_le _) dX2_perform_259 (fun H locs hP hD hS => ?_)
    obtain ⟨s21, es21⟩ : ∃ zz : SB, f_X2_makeTwice s t = zz := ⟨_, rfl⟩
    rw [es21] at hP hD
    refine lv_goto (tgt := 273) hx hb dX2_perform_262 (by decide) ?_
    subst es21
    exact rt_V (s1 := _) hx hb hr hlk hK hP hD hS (Eq.symm (Eq.trans (if_neg c_1_0) (Eq.trans (if_neg c_1_1) (Eq.trans (if_neg c_1_2) (Eq.trans (if_neg c_1_3) (Eq.trans (if_neg c_1_4) (Eq.trans (if_neg c_1_5) (Eq.trans (if_neg c_1_6) (Eq.trans (if_neg c_1_7) (Eq.trans (if_neg c_1_8) (Eq.trans (if_neg c_1_9) (Eq.trans (if_neg c_1_10) (Eq.trans (if_neg c_1_11) (Eq.trans (if_neg c_1_12) (Eq.trans (if_neg c_1_13) (Eq.trans (if_pos c_1_14) (rfl))))))))))))))))) dX2_perform_273
  by_cases c_1_15 : n = 15
  · refine lv_tableIn (tgt := 265) (off := 264) hx hb dX2_perform_1 (by rw [c_1_15]; decide) (by rw [c_1_15]; decide) (by rw [c_1_15]; rfl) (by decide) ?_
    refine lv_aload_n hx hb dX2_perform_265 rfl (lv_at hl 0 rfl) ?_
    refine lv_iload_n hx hb dX2_perform_266 rfl (lv_at hl 2 rfl) ?_
    refine cl_V (c_X2_give l D K a _ _ h_t) ⟨hx, hb, hml, hown, hts⟩ (cwV 1 hts gX2_perform_X2_give rfl rfl rfl (by decide +kernel) ⟨Nat.le_of_ble_eq_true rfl, Nat.le_of_ble_eq_true rfl⟩) hK hP hD hS hA rfl rfl rfl rfl hl.1 rfl (Nat.le_of_ble_eq_true rfl) (Nat.zero_le _) (Nat.zero_le _) dX2_perform_267 (fun H locs hP hD hS => ?_)
    obtain ⟨s22, es22⟩ : ∃ zz : SB, f_X2_give s t = zz := ⟨_, rfl⟩
    rw [es22] at hP hD
    refine lv_goto (tgt := 273) hx hb dX2_perform_270 (by decide) ?_
    subst es22
    exact rt_V (s1 := _) hx hb hr hlk hK hP hD hS (Eq.symm (Eq.trans (if_neg c_1_0) (Eq.trans (if_neg c_1_1) (Eq.trans (if_neg c_1_2) (Eq.trans (if_neg c_1_3) (Eq.trans (if_neg c_1_4) (Eq.trans (if_neg c_1_5) (Eq.trans (if_neg c_1_6) (Eq.trans (if_neg c_1_7) (Eq.trans (if_neg c_1_8) (Eq.trans (if_neg c_1_9) (Eq.trans (if_neg c_1_10) (Eq.trans (if_neg c_1_11) (Eq.trans (if_neg c_1_12) (Eq.trans (if_neg c_1_13) (Eq.trans (if_neg c_1_14) (Eq.trans (if_pos c_1_15) (rfl)))))))))))))))))) dX2_perform_273
  have n_1_0 := sw_i c_1_0 (k := 0) (by decide)
  have n_1_1 := sw_i c_1_1 (k := 1) (by decide)
  have n_1_2 := sw_i c_1_2 (k := 2) (by decide)
  have n_1_3 := sw_i c_1_3 (k := 3) (by decide)
  have n_1_4 := sw_i c_1_4 (k := 4) (by decide)
  have n_1_5 := sw_i c_1_5 (k := 5) (by decide)
  have n_1_6 := sw_i c_1_6 (k := 6) (by decide)
  have n_1_7 := sw_i c_1_7 (k := 7) (by decide)
  have n_1_8 := sw_i c_1_8 (k := 8) (by decide)
  have n_1_9 := sw_i c_1_9 (k := 9) (by decide)
  have n_1_10 := sw_i c_1_10 (k := 10) (by decide)
  have n_1_11 := sw_i c_1_11 (k := 11) (by decide)
  have n_1_12 := sw_i c_1_12 (k := 12) (by decide)
  have n_1_13 := sw_i c_1_13 (k := 13) (by decide)
  have n_1_14 := sw_i c_1_14 (k := 14) (by decide)
  have n_1_15 := sw_i c_1_15 (k := 15) (by decide)
  refine lv_tableOut (tgt := 273) hx hb dX2_perform_1 (by omega) (by decide) ?_
  exact rt_V (s1 := _) hx hb hr hlk hK hP hD hS (Eq.symm (Eq.trans (if_neg c_1_0) (Eq.trans (if_neg c_1_1) (Eq.trans (if_neg c_1_2) (Eq.trans (if_neg c_1_3) (Eq.trans (if_neg c_1_4) (Eq.trans (if_neg c_1_5) (Eq.trans (if_neg c_1_6) (Eq.trans (if_neg c_1_7) (Eq.trans (if_neg c_1_8) (Eq.trans (if_neg c_1_9) (Eq.trans (if_neg c_1_10) (Eq.trans (if_neg c_1_11) (Eq.trans (if_neg c_1_12) (Eq.trans (if_neg c_1_13) (Eq.trans (if_neg c_1_14) (Eq.trans (if_neg c_1_15) (rfl)))))))))))))))))) dX2_perform_273
