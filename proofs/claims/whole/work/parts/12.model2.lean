def f_X3_does (s : SM) (n : Int32) (t : Int32) (u : Int32) : SM := if n = 0 then (let s1 := f_X3_flip s t; s1) else (if n = 1 then (let s2 := f_X3_stretch s t u; s2) else (if n = 2 then (let s3 := f_X3_ease s t u; s3) else (if n = 3 then (let s4 := f_X3_wholes s n t; s4) else (if n = 4 then (let s5 := f_X3_wholes s n t; s5) else (if n = 5 then (let s6 := f_X3_wholes s n t; s6) else (if n = 6 then (let s7 := f_X3_lean s t; s7) else (if n = 7 then (let s8 := f_X3_mirror s t u; s8) else (if n = 8 then (pM_L s (vp_updL (gM_L s) t.toNatClampNeg (f_X3_lesser (f_X3_greater ((gM_L s) t.toNatClampNeg) ((gM_LO s) t.toNatClampNeg)) ((gM_HI s) t.toNatClampNeg)))) else (if n = 9 then (let s9 := f_X3_stops s t u; s9) else (if n = 10 then (let s10 := f_X3_gather s t; s10) else (if n = 11 then (let s11 := f_X3_trade_L s t u; let s12 := f_X3_trade4_P s11 t u; let s13 := f_X3_trade4_K s12 t u; let s14 := f_X3_trade_T s13 t u; let s15 := f_X3_trade_LO s14 t u; let s16 := f_X3_trade_HI s15 t u; s16) else (if n = 12 then (let s17 := f_X3_climb s t; s17) else (if n = 13 then (pM_P (pM_L s (vp_updL (gM_L s) t.toNatClampNeg (f_X3_half ((gM_L s) t.toNatClampNeg) 52))) (upd (gM_P s) t.toNatClampNeg (Int64.toInt32 (f_X3_half (f_X3_thin ((gM_P s) t.toNatClampNeg)) 23)))) else (if n = 14 then (pM_P (pM_L s (vp_updL (gM_L s) t.toNatClampNeg (f_X3_twice ((gM_L s) t.toNatClampNeg) 52))) (upd (gM_P s) t.toNatClampNeg (Int64.toInt32 (f_X3_twice (f_X3_thin ((gM_P s) t.toNatClampNeg)) 23)))) else (pM_T (pM_K (pM_P (pM_L s (vp_updL (gM_L s) t.toNatClampNeg (gM_ti s))) (upd (gM_P s) t.toNatClampNeg (gM_we s))) (upd (gM_K s) t.toNatClampNeg (gM_co s))) (vp_updL (gM_T s) t.toNatClampNeg (gM_tu s)))))))))))))))))
set_option maxHeartbeats 4000000 in
set_option maxRecDepth 100000 in
theorem c_X3_does (l : Launch) (D : va_G) (K : ClassId × ClassId × ClassId) (a : Nat → Nat) (s : SM) (n : Int32) (t : Int32) (u : Int32) (h_t : vp_in t 8) (hu : n = 1 ∨ n = 2 ∨ n = 7 ∨ n = 9 ∨ n = 11 → vp_in u 8) : MetV l yX3_does wsX3_does { frames := 5, cells := 0, slots := 0, locals := 114 } D vwCl (tyK K) (wM K a) [.ref (a 0), .int n, .int t, .int u] s (f_X3_does s n t u) := by
  intro sz0
  refine en_W (cc := cX3_does) (maxL := 4) (ret := none) (Qc := fun A => va_Qv (fun u0 : SM => u0 = f_X3_does s n t u) (bs_a D vwCl (tyK K) (wM K a) A) A) (by decide) rfl (Nat.le_of_ble_eq_true rfl) ?_ sz0
  intro p e st m below meth c ls A hx hb hr hml hts hown hlk hA hK hP hD hS hl
  have hown : st.vm.findClass RX3 = some m.cls := hown
  have hl : lv_has ls 4 [(0, .ref (a 0)), (1, .int n), (2, .int t), (3, .int u)] := hl
  have hinX3 : ∀ w ∈ u_ws RX3 TX3 21, w ∈ wsX3_does := fun w h => List.mem_cons_of_mem _ (List.mem_append_right _ h)
  have k13 := hts (.fieldLink RX3 13 "PuppetBarModel" "length" "[J") (by decide +kernel)
  have k27 := hts (.fieldLink RX3 27 "PuppetBarModel" "low" "[J") (by decide +kernel)
  have k30 := hts (.fieldLink RX3 30 "PuppetBarModel" "high" "[J") (by decide +kernel)
  have k17 := hts (.fieldLink RX3 17 "PuppetBarModel" "pull" "[I") (by decide +kernel)
  have k21 := hts (.fieldLink RX3 21 "PuppetBarModel" "knots" "[I") (by decide +kernel)
  have k24 := hts (.fieldLink RX3 24 "PuppetBarModel" "twist" "[J") (by decide +kernel)
  have k153 := hts (.fieldLink RX3 153 "PuppetBarModel" "tilt" "J") (by decide +kernel)
  have k157 := hts (.fieldLink RX3 157 "PuppetBarModel" "weight" "I") (by decide +kernel)
  have k161 := hts (.fieldLink RX3 161 "PuppetBarModel" "count" "I") (by decide +kernel)
  have k164 := hts (.fieldLink RX3 164 "PuppetBarModel" "turn" "J") (by decide +kernel)
  refine lv_iload_n hx hb dX3_does_0 rfl (lv_at hl 1 rfl) ?_
  by_cases c_1_0 : n = 0
  · refine lv_tableIn (tgt := 76) (off := 75) hx hb dX3_does_1 (by rw [c_1_0]; decide) (by rw [c_1_0]; decide) (by rw [c_1_0]; rfl) (by decide) ?_
    refine lv_aload_n hx hb dX3_does_76 rfl (lv_at hl 0 rfl) ?_
    refine lv_iload_n hx hb dX3_does_77 rfl (lv_at hl 2 rfl) ?_
    refine cl_V (c_X3_flip l D K a _ _ h_t) ⟨hx, hb, hml, hown, hts⟩ (cwV 1 hts gX3_does_X3_flip rfl rfl rfl (by decide +kernel) ⟨Nat.le_of_ble_eq_true rfl, Nat.le_of_ble_eq_true rfl⟩) hK hP hD hS hA rfl rfl rfl rfl hl.1 rfl (Nat.le_of_ble_eq_true rfl) (Nat.zero_le _) (Nat.zero_le _) dX3_does_78 (fun H locs hP hD hS => ?_)
    obtain ⟨s1, es1⟩ : ∃ zz : SM, f_X3_flip s t = zz := ⟨_, rfl⟩
    rw [es1] at hP hD
    refine lv_goto (tgt := 365) hx hb dX3_does_81 (by decide) ?_
    subst es1
    exact rt_V (s1 := _) hx hb hr hlk hK hP hD hS (Eq.symm (Eq.trans (if_pos c_1_0) (rfl))) dX3_does_365
  by_cases c_1_1 : n = 1
  · refine lv_tableIn (tgt := 84) (off := 83) hx hb dX3_does_1 (by rw [c_1_1]; decide) (by rw [c_1_1]; decide) (by rw [c_1_1]; rfl) (by decide) ?_
    refine lv_aload_n hx hb dX3_does_84 rfl (lv_at hl 0 rfl) ?_
    refine lv_iload_n hx hb dX3_does_85 rfl (lv_at hl 2 rfl) ?_
    refine lv_iload_n hx hb dX3_does_86 rfl (lv_at hl 3 rfl) ?_
    refine cl_V (c_X3_stretch l D K a _ _ _ h_t (hu (Or.inl c_1_1))) ⟨hx, hb, hml, hown, hts⟩ (cwV 2 hts gX3_does_X3_stretch rfl rfl rfl (by decide +kernel) ⟨Nat.le_of_ble_eq_true rfl, Nat.le_of_ble_eq_true rfl⟩) hK hP hD hS hA rfl rfl rfl rfl hl.1 rfl (Nat.le_of_ble_eq_true rfl) (Nat.zero_le _) (Nat.zero_le _) dX3_does_87 (fun H locs hP hD hS => ?_)
    obtain ⟨s2, es2⟩ : ∃ zz : SM, f_X3_stretch s t u = zz := ⟨_, rfl⟩
    rw [es2] at hP hD
    refine lv_goto (tgt := 365) hx hb dX3_does_90 (by decide) ?_
    subst es2
    exact rt_V (s1 := _) hx hb hr hlk hK hP hD hS (Eq.symm (Eq.trans (if_neg c_1_0) (Eq.trans (if_pos c_1_1) (rfl)))) dX3_does_365
  by_cases c_1_2 : n = 2
  · refine lv_tableIn (tgt := 93) (off := 92) hx hb dX3_does_1 (by rw [c_1_2]; decide) (by rw [c_1_2]; decide) (by rw [c_1_2]; rfl) (by decide) ?_
    refine lv_aload_n hx hb dX3_does_93 rfl (lv_at hl 0 rfl) ?_
    refine lv_iload_n hx hb dX3_does_94 rfl (lv_at hl 2 rfl) ?_
    refine lv_iload_n hx hb dX3_does_95 rfl (lv_at hl 3 rfl) ?_
    refine cl_V (c_X3_ease l D K a _ _ _ h_t (hu (Or.inr (Or.inl c_1_2)))) ⟨hx, hb, hml, hown, hts⟩ (cwV 2 hts gX3_does_X3_ease rfl rfl rfl (by decide +kernel) ⟨Nat.le_of_ble_eq_true rfl, Nat.le_of_ble_eq_true rfl⟩) hK hP hD hS hA rfl rfl rfl rfl hl.1 rfl (Nat.le_of_ble_eq_true rfl) (Nat.zero_le _) (Nat.zero_le _) dX3_does_96 (fun H locs hP hD hS => ?_)
    obtain ⟨s3, es3⟩ : ∃ zz : SM, f_X3_ease s t u = zz := ⟨_, rfl⟩
    rw [es3] at hP hD
    refine lv_goto (tgt := 365) hx hb dX3_does_99 (by decide) ?_
    subst es3
    exact rt_V (s1 := _) hx hb hr hlk hK hP hD hS (Eq.symm (Eq.trans (if_neg c_1_0) (Eq.trans (if_neg c_1_1) (Eq.trans (if_pos c_1_2) (rfl))))) dX3_does_365
  by_cases c_1_3 : n = 3
  · refine lv_tableIn (tgt := 102) (off := 101) hx hb dX3_does_1 (by rw [c_1_3]; decide) (by rw [c_1_3]; decide) (by rw [c_1_3]; rfl) (by decide) ?_
    refine lv_aload_n hx hb dX3_does_102 rfl (lv_at hl 0 rfl) ?_
    refine lv_iload_n hx hb dX3_does_103 rfl (lv_at hl 1 rfl) ?_
    refine lv_iload_n hx hb dX3_does_104 rfl (lv_at hl 2 rfl) ?_
    refine cl_V (c_X3_wholes l D K a _ _ _ h_t) ⟨hx, hb, hml, hown, hts⟩ (cwV 2 hts gX3_does_X3_wholes rfl rfl rfl (by decide +kernel) ⟨Nat.le_of_ble_eq_true rfl, Nat.le_of_ble_eq_true rfl⟩) hK hP hD hS hA rfl rfl rfl rfl hl.1 rfl (Nat.le_of_ble_eq_true rfl) (Nat.zero_le _) (Nat.zero_le _) dX3_does_105 (fun H locs hP hD hS => ?_)
    obtain ⟨s4, es4⟩ : ∃ zz : SM, f_X3_wholes s n t = zz := ⟨_, rfl⟩
    rw [es4] at hP hD
    refine lv_goto (tgt := 365) hx hb dX3_does_108 (by decide) ?_
    subst es4
    exact rt_V (s1 := _) hx hb hr hlk hK hP hD hS (Eq.symm (Eq.trans (if_neg c_1_0) (Eq.trans (if_neg c_1_1) (Eq.trans (if_neg c_1_2) (Eq.trans (if_pos c_1_3) (rfl)))))) dX3_does_365
  by_cases c_1_4 : n = 4
  · refine lv_tableIn (tgt := 102) (off := 101) hx hb dX3_does_1 (by rw [c_1_4]; decide) (by rw [c_1_4]; decide) (by rw [c_1_4]; rfl) (by decide) ?_
    refine lv_aload_n hx hb dX3_does_102 rfl (lv_at hl 0 rfl) ?_
    refine lv_iload_n hx hb dX3_does_103 rfl (lv_at hl 1 rfl) ?_
    refine lv_iload_n hx hb dX3_does_104 rfl (lv_at hl 2 rfl) ?_
    refine cl_V (c_X3_wholes l D K a _ _ _ h_t) ⟨hx, hb, hml, hown, hts⟩ (cwV 2 hts gX3_does_X3_wholes rfl rfl rfl (by decide +kernel) ⟨Nat.le_of_ble_eq_true rfl, Nat.le_of_ble_eq_true rfl⟩) hK hP hD hS hA rfl rfl rfl rfl hl.1 rfl (Nat.le_of_ble_eq_true rfl) (Nat.zero_le _) (Nat.zero_le _) dX3_does_105 (fun H locs hP hD hS => ?_)
    obtain ⟨s5, es5⟩ : ∃ zz : SM, f_X3_wholes s n t = zz := ⟨_, rfl⟩
    rw [es5] at hP hD
    refine lv_goto (tgt := 365) hx hb dX3_does_108 (by decide) ?_
    subst es5
    exact rt_V (s1 := _) hx hb hr hlk hK hP hD hS (Eq.symm (Eq.trans (if_neg c_1_0) (Eq.trans (if_neg c_1_1) (Eq.trans (if_neg c_1_2) (Eq.trans (if_neg c_1_3) (Eq.trans (if_pos c_1_4) (rfl))))))) dX3_does_365
  by_cases c_1_5 : n = 5
  · refine lv_tableIn (tgt := 102) (off := 101) hx hb dX3_does_1 (by rw [c_1_5]; decide) (by rw [c_1_5]; decide) (by rw [c_1_5]; rfl) (by decide) ?_
    refine lv_aload_n hx hb dX3_does_102 rfl (lv_at hl 0 rfl) ?_
    refine lv_iload_n hx hb dX3_does_103 rfl (lv_at hl 1 rfl) ?_
    refine lv_iload_n hx hb dX3_does_104 rfl (lv_at hl 2 rfl) ?_
    refine cl_V (c_X3_wholes l D K a _ _ _ h_t) ⟨hx, hb, hml, hown, hts⟩ (cwV 2 hts gX3_does_X3_wholes rfl rfl rfl (by decide +kernel) ⟨Nat.le_of_ble_eq_true rfl, Nat.le_of_ble_eq_true rfl⟩) hK hP hD hS hA rfl rfl rfl rfl hl.1 rfl (Nat.le_of_ble_eq_true rfl) (Nat.zero_le _) (Nat.zero_le _) dX3_does_105 (fun H locs hP hD hS => ?_)
    obtain ⟨s6, es6⟩ : ∃ zz : SM, f_X3_wholes s n t = zz := ⟨_, rfl⟩
    rw [es6] at hP hD
    refine lv_goto (tgt := 365) hx hb dX3_does_108 (by decide) ?_
    subst es6
    exact rt_V (s1 := _) hx hb hr hlk hK hP hD hS (Eq.symm (Eq.trans (if_neg c_1_0) (Eq.trans (if_neg c_1_1) (Eq.trans (if_neg c_1_2) (Eq.trans (if_neg c_1_3) (Eq.trans (if_neg c_1_4) (Eq.trans (if_pos c_1_5) (rfl)))))))) dX3_does_365
  by_cases c_1_6 : n = 6
  · refine lv_tableIn (tgt := 111) (off := 110) hx hb dX3_does_1 (by rw [c_1_6]; decide) (by rw [c_1_6]; decide) (by rw [c_1_6]; rfl) (by decide) ?_
    refine lv_aload_n hx hb dX3_does_111 rfl (lv_at hl 0 rfl) ?_
    refine lv_iload_n hx hb dX3_does_112 rfl (lv_at hl 2 rfl) ?_
    refine cl_V (c_X3_lean l D K a _ _ h_t) ⟨hx, hb, hml, hown, hts⟩ (cwV 1 hts gX3_does_X3_lean rfl rfl rfl (by decide +kernel) ⟨Nat.le_of_ble_eq_true rfl, Nat.le_of_ble_eq_true rfl⟩) hK hP hD hS hA rfl rfl rfl rfl hl.1 rfl (Nat.le_of_ble_eq_true rfl) (Nat.zero_le _) (Nat.zero_le _) dX3_does_113 (fun H locs hP hD hS => ?_)
    obtain ⟨s7, es7⟩ : ∃ zz : SM, f_X3_lean s t = zz := ⟨_, rfl⟩
    rw [es7] at hP hD
    refine lv_goto (tgt := 365) hx hb dX3_does_116 (by decide) ?_
    subst es7
    exact rt_V (s1 := _) hx hb hr hlk hK hP hD hS (Eq.symm (Eq.trans (if_neg c_1_0) (Eq.trans (if_neg c_1_1) (Eq.trans (if_neg c_1_2) (Eq.trans (if_neg c_1_3) (Eq.trans (if_neg c_1_4) (Eq.trans (if_neg c_1_5) (Eq.trans (if_pos c_1_6) (rfl))))))))) dX3_does_365
  by_cases c_1_7 : n = 7
  · refine lv_tableIn (tgt := 119) (off := 118) hx hb dX3_does_1 (by rw [c_1_7]; decide) (by rw [c_1_7]; decide) (by rw [c_1_7]; rfl) (by decide) ?_
    refine lv_aload_n hx hb dX3_does_119 rfl (lv_at hl 0 rfl) ?_
    refine lv_iload_n hx hb dX3_does_120 rfl (lv_at hl 2 rfl) ?_
    refine lv_iload_n hx hb dX3_does_121 rfl (lv_at hl 3 rfl) ?_
    refine cl_V (c_X3_mirror l D K a _ _ _ h_t (hu (Or.inr (Or.inr (Or.inl c_1_7))))) ⟨hx, hb, hml, hown, hts⟩ (cwV 2 hts gX3_does_X3_mirror rfl rfl rfl (by decide +kernel) ⟨Nat.le_of_ble_eq_true rfl, Nat.le_of_ble_eq_true rfl⟩) hK hP hD hS hA rfl rfl rfl rfl hl.1 rfl (Nat.le_of_ble_eq_true rfl) (Nat.zero_le _) (Nat.zero_le _) dX3_does_122 (fun H locs hP hD hS => ?_)
    obtain ⟨s8, es8⟩ : ∃ zz : SM, f_X3_mirror s t u = zz := ⟨_, rfl⟩
    rw [es8] at hP hD
    refine lv_goto (tgt := 365) hx hb dX3_does_125 (by decide) ?_
    subst es8
    exact rt_V (s1 := _) hx hb hr hlk hK hP hD hS (Eq.symm (Eq.trans (if_neg c_1_0) (Eq.trans (if_neg c_1_1) (Eq.trans (if_neg c_1_2) (Eq.trans (if_neg c_1_3) (Eq.trans (if_neg c_1_4) (Eq.trans (if_neg c_1_5) (Eq.trans (if_neg c_1_6) (Eq.trans (if_pos c_1_7) (rfl)))))))))) dX3_does_365
  by_cases c_1_8 : n = 8
  · refine lv_tableIn (tgt := 128) (off := 127) hx hb dX3_does_1 (by rw [c_1_8]; decide) (by rw [c_1_8]; decide) (by rw [c_1_8]; rfl) (by decide) ?_
    refine lv_aload_n hx hb dX3_does_128 rfl (lv_at hl 0 rfl) ?_
    refine va_get (D := D) (ci := 2) (C := RX3) (T := TX3) (N := 21) hx hb hts hinX3 hown hK hP 0 rfl rfl 1 (by decide) k13 (fun _ h9 => h9) rfl dX3_does_129 ?_
    refine lv_iload_n hx hb dX3_does_132 rfl (lv_at hl 2 rfl) ?_
    refine lv_aload_n hx hb dX3_does_133 rfl (lv_at hl 0 rfl) ?_
    refine va_get (D := D) (ci := 2) (C := RX3) (T := TX3) (N := 21) hx hb hts hinX3 hown hK hP 0 rfl rfl 1 (by decide) k13 (fun _ h9 => h9) rfl dX3_does_134 ?_
    refine lv_iload_n hx hb dX3_does_137 rfl (lv_at hl 2 rfl) ?_
    refine va_lald hx hb hK hP 2 1 rfl rfl h_t dX3_does_138 ?_
    refine lv_aload_n hx hb dX3_does_139 rfl (lv_at hl 0 rfl) ?_
    refine va_get (D := D) (ci := 2) (C := RX3) (T := TX3) (N := 21) hx hb hts hinX3 hown hK hP 0 rfl rfl 5 (by decide) k27 (fun _ h9 => h9) rfl dX3_does_140 ?_
    refine lv_iload_n hx hb dX3_does_143 rfl (lv_at hl 2 rfl) ?_
    refine va_lald hx hb hK hP 6 1 rfl rfl h_t dX3_does_144 ?_
    refine cl_Pl (c_X3_greater l _ _) ⟨hx, hb, hml, hown, hts⟩ (va_cwS 2 hts gX3_does_X3_greater rfl rfl rfl (by decide +kernel) ⟨Nat.le_of_ble_eq_true rfl, Nat.le_of_ble_eq_true rfl⟩) rfl hl.1 rfl (Nat.le_of_ble_eq_true rfl) (Nat.zero_le _) (Nat.zero_le _) dX3_does_145 ?_
    refine lv_aload_n hx hb dX3_does_148 rfl (lv_at hl 0 rfl) ?_
    refine va_get (D := D) (ci := 2) (C := RX3) (T := TX3) (N := 21) hx hb hts hinX3 hown hK hP 0 rfl rfl 6 (by decide) k30 (fun _ h9 => h9) rfl dX3_does_149 ?_
    refine lv_iload_n hx hb dX3_does_152 rfl (lv_at hl 2 rfl) ?_
    refine va_lald hx hb hK hP 7 1 rfl rfl h_t dX3_does_153 ?_
    refine cl_Pl (c_X3_lesser l _ _) ⟨hx, hb, hml, hown, hts⟩ (va_cwS 2 hts gX3_does_X3_lesser rfl rfl rfl (by decide +kernel) ⟨Nat.le_of_ble_eq_true rfl, Nat.le_of_ble_eq_true rfl⟩) rfl hl.1 rfl (Nat.le_of_ble_eq_true rfl) (Nat.zero_le _) (Nat.zero_le _) dX3_does_154 ?_
    refine va_last hx hb hK hP hD hS 2 1 rfl rfl h_t dX3_does_157 (fun H locs hP hD hS => ?_)
    have hP : va_P D vwCl (wM K a (pM_L s (vp_updL (gM_L s) t.toNatClampNeg (f_X3_lesser (f_X3_greater ((gM_L s) t.toNatClampNeg) ((gM_LO s) t.toNatClampNeg)) ((gM_HI s) t.toNatClampNeg))))) H := hP
    have hD : va_D A (wM K a (pM_L s (vp_updL (gM_L s) t.toNatClampNeg (f_X3_lesser (f_X3_greater ((gM_L s) t.toNatClampNeg) ((gM_LO s) t.toNatClampNeg)) ((gM_HI s) t.toNatClampNeg))))) := hD
    refine lv_goto (tgt := 365) hx hb dX3_does_158 (by decide) ?_
    exact rt_V (s1 := _) hx hb hr hlk hK hP hD hS (Eq.symm (Eq.trans (if_neg c_1_0) (Eq.trans (if_neg c_1_1) (Eq.trans (if_neg c_1_2) (Eq.trans (if_neg c_1_3) (Eq.trans (if_neg c_1_4) (Eq.trans (if_neg c_1_5) (Eq.trans (if_neg c_1_6) (Eq.trans (if_neg c_1_7) (Eq.trans (if_pos c_1_8) (rfl))))))))))) dX3_does_365
  by_cases c_1_9 : n = 9
  · refine lv_tableIn (tgt := 161) (off := 160) hx hb dX3_does_1 (by rw [c_1_9]; decide) (by rw [c_1_9]; decide) (by rw [c_1_9]; rfl) (by decide) ?_
    refine lv_aload_n hx hb dX3_does_161 rfl (lv_at hl 0 rfl) ?_
    refine lv_iload_n hx hb dX3_does_162 rfl (lv_at hl 2 rfl) ?_
    refine lv_iload_n hx hb dX3_does_163 rfl (lv_at hl 3 rfl) ?_
    refine cl_V (c_X3_stops l D K a _ _ _ h_t (hu (Or.inr (Or.inr (Or.inr (Or.inl c_1_9)))))) ⟨hx, hb, hml, hown, hts⟩ (cwV 2 hts gX3_does_X3_stops rfl rfl rfl (by decide +kernel) ⟨Nat.le_of_ble_eq_true rfl, Nat.le_of_ble_eq_true rfl⟩) hK hP hD hS hA rfl rfl rfl rfl hl.1 rfl (Nat.le_of_ble_eq_true rfl) (Nat.zero_le _) (Nat.zero_le _) dX3_does_164 (fun H locs hP hD hS => ?_)
    obtain ⟨s9, es9⟩ : ∃ zz : SM, f_X3_stops s t u = zz := ⟨_, rfl⟩
    rw [es9] at hP hD
    refine lv_goto (tgt := 365) hx hb dX3_does_167 (by decide) ?_
    subst es9
    exact rt_V (s1 := _) hx hb hr hlk hK hP hD hS (Eq.symm (Eq.trans (if_neg c_1_0) (Eq.trans (if_neg c_1_1) (Eq.trans (if_neg c_1_2) (Eq.trans (if_neg c_1_3) (Eq.trans (if_neg c_1_4) (Eq.trans (if_neg c_1_5) (Eq.trans (if_neg c_1_6) (Eq.trans (if_neg c_1_7) (Eq.trans (if_neg c_1_8) (Eq.trans (if_pos c_1_9) (rfl)))))))))))) dX3_does_365
  by_cases c_1_10 : n = 10
  · refine lv_tableIn (tgt := 170) (off := 169) hx hb dX3_does_1 (by rw [c_1_10]; decide) (by rw [c_1_10]; decide) (by rw [c_1_10]; rfl) (by decide) ?_
    refine lv_aload_n hx hb dX3_does_170 rfl (lv_at hl 0 rfl) ?_
    refine lv_iload_n hx hb dX3_does_171 rfl (lv_at hl 2 rfl) ?_
    refine cl_V (c_X3_gather l D K a _ _ h_t) ⟨hx, hb, hml, hown, hts⟩ (cwV 1 hts gX3_does_X3_gather rfl rfl rfl (by decide +kernel) ⟨Nat.le_of_ble_eq_true rfl, Nat.le_of_ble_eq_true rfl⟩) hK hP hD hS hA rfl rfl rfl rfl hl.1 rfl (Nat.le_of_ble_eq_true rfl) (Nat.zero_le _) (Nat.zero_le _) dX3_does_172 (fun H locs hP hD hS => ?_)
    obtain ⟨s10, es10⟩ : ∃ zz : SM, f_X3_gather s t = zz := ⟨_, rfl⟩
    rw [es10] at hP hD
    refine lv_goto (tgt := 365) hx hb dX3_does_175 (by decide) ?_
    subst es10
    exact rt_V (s1 := _) hx hb hr hlk hK hP hD hS (Eq.symm (Eq.trans (if_neg c_1_0) (Eq.trans (if_neg c_1_1) (Eq.trans (if_neg c_1_2) (Eq.trans (if_neg c_1_3) (Eq.trans (if_neg c_1_4) (Eq.trans (if_neg c_1_5) (Eq.trans (if_neg c_1_6) (Eq.trans (if_neg c_1_7) (Eq.trans (if_neg c_1_8) (Eq.trans (if_neg c_1_9) (Eq.trans (if_pos c_1_10) (rfl))))))))))))) dX3_does_365
  by_cases c_1_11 : n = 11
  · refine lv_tableIn (tgt := 178) (off := 177) hx hb dX3_does_1 (by rw [c_1_11]; decide) (by rw [c_1_11]; decide) (by rw [c_1_11]; rfl) (by decide) ?_
    refine lv_aload_n hx hb dX3_does_178 rfl (lv_at hl 0 rfl) ?_
    refine va_get (D := D) (ci := 2) (C := RX3) (T := TX3) (N := 21) hx hb hts hinX3 hown hK hP 0 rfl rfl 1 (by decide) k13 (fun _ h9 => h9) rfl dX3_does_179 ?_
    refine lv_iload_n hx hb dX3_does_182 rfl (lv_at hl 2 rfl) ?_
    refine lv_iload_n hx hb dX3_does_183 rfl (lv_at hl 3 rfl) ?_
    refine cl_SV (c_X3_trade_L l D K a _ _ _ h_t (hu (Or.inr (Or.inr (Or.inr (Or.inr c_1_11)))))) ⟨hx, hb, hml, hown, hts⟩ (va_cwS 3 hts gX3_does_X3_trade rfl rfl rfl (by decide +kernel) ⟨Nat.le_of_ble_eq_true rfl, Nat.le_of_ble_eq_true rfl⟩) hK hP hD hS hA rfl hl.1 rfl (Nat.le_of_ble_eq_true rfl) (Nat.zero_le _) (Nat.zero_le _) dX3_does_184 (fun H locs hP hD hS => ?_)
    obtain ⟨s11, es11⟩ : ∃ zz : SM, f_X3_trade_L s t u = zz := ⟨_, rfl⟩
    rw [es11] at hP hD
    refine lv_aload_n hx hb dX3_does_187 rfl (lv_at hl 0 rfl) ?_
    refine va_get (D := D) (ci := 2) (C := RX3) (T := TX3) (N := 21) hx hb hts hinX3 hown hK hP 0 rfl rfl 2 (by decide) k17 (fun _ h9 => h9) rfl dX3_does_188 ?_
    refine lv_iload_n hx hb dX3_does_191 rfl (lv_at hl 2 rfl) ?_
    refine lv_iload_n hx hb dX3_does_192 rfl (lv_at hl 3 rfl) ?_
    refine cl_SV (c_X3_trade4_P l D K a _ _ _ h_t (hu (Or.inr (Or.inr (Or.inr (Or.inr c_1_11)))))) ⟨hx, hb, hml, hown, hts⟩ (va_cwS 3 hts gX3_does_X3_trade4 rfl rfl rfl (by decide +kernel) ⟨Nat.le_of_ble_eq_true rfl, Nat.le_of_ble_eq_true rfl⟩) hK hP hD hS hA rfl hl.1 rfl (Nat.le_of_ble_eq_true rfl) (Nat.zero_le _) (Nat.zero_le _) dX3_does_193 (fun H locs hP hD hS => ?_)
    obtain ⟨s12, es12⟩ : ∃ zz : SM, f_X3_trade4_P s11 t u = zz := ⟨_, rfl⟩
    rw [es12] at hP hD
    refine lv_aload_n hx hb dX3_does_196 rfl (lv_at hl 0 rfl) ?_
    refine va_get (D := D) (ci := 2) (C := RX3) (T := TX3) (N := 21) hx hb hts hinX3 hown hK hP 0 rfl rfl 3 (by decide) k21 (fun _ h9 => h9) rfl dX3_does_197 ?_
    refine lv_iload_n hx hb dX3_does_200 rfl (lv_at hl 2 rfl) ?_
    refine lv_iload_n hx hb dX3_does_201 rfl (lv_at hl 3 rfl) ?_
    refine cl_SV (c_X3_trade4_K l D K a _ _ _ h_t (hu (Or.inr (Or.inr (Or.inr (Or.inr c_1_11)))))) ⟨hx, hb, hml, hown, hts⟩ (va_cwS 3 hts gX3_does_X3_trade4 rfl rfl rfl (by decide +kernel) ⟨Nat.le_of_ble_eq_true rfl, Nat.le_of_ble_eq_true rfl⟩) hK hP hD hS hA rfl hl.1 rfl (Nat.le_of_ble_eq_true rfl) (Nat.zero_le _) (Nat.zero_le _) dX3_does_202 (fun H locs hP hD hS => ?_)
    obtain ⟨s13, es13⟩ : ∃ zz : SM, f_X3_trade4_K s12 t u = zz := ⟨_, rfl⟩
    rw [es13] at hP hD
    refine lv_aload_n hx hb dX3_does_205 rfl (lv_at hl 0 rfl) ?_
    refine va_get (D := D) (ci := 2) (C := RX3) (T := TX3) (N := 21) hx hb hts hinX3 hown hK hP 0 rfl rfl 4 (by decide) k24 (fun _ h9 => h9) rfl dX3_does_206 ?_
    refine lv_iload_n hx hb dX3_does_209 rfl (lv_at hl 2 rfl) ?_
    refine lv_iload_n hx hb dX3_does_210 rfl (lv_at hl 3 rfl) ?_
    refine cl_SV (c_X3_trade_T l D K a _ _ _ h_t (hu (Or.inr (Or.inr (Or.inr (Or.inr c_1_11)))))) ⟨hx, hb, hml, hown, hts⟩ (va_cwS 3 hts gX3_does_X3_trade rfl rfl rfl (by decide +kernel) ⟨Nat.le_of_ble_eq_true rfl, Nat.le_of_ble_eq_true rfl⟩) hK hP hD hS hA rfl hl.1 rfl (Nat.le_of_ble_eq_true rfl) (Nat.zero_le _) (Nat.zero_le _) dX3_does_211 (fun H locs hP hD hS => ?_)
    obtain ⟨s14, es14⟩ : ∃ zz : SM, f_X3_trade_T s13 t u = zz := ⟨_, rfl⟩
    rw [es14] at hP hD
    refine lv_aload_n hx hb dX3_does_214 rfl (lv_at hl 0 rfl) ?_
    refine va_get (D := D) (ci := 2) (C := RX3) (T := TX3) (N := 21) hx hb hts hinX3 hown hK hP 0 rfl rfl 5 (by decide) k27 (fun _ h9 => h9) rfl dX3_does_215 ?_
    refine lv_iload_n hx hb dX3_does_218 rfl (lv_at hl 2 rfl) ?_
    refine lv_iload_n hx hb dX3_does_219 rfl (lv_at hl 3 rfl) ?_
    refine cl_SV (c_X3_trade_LO l D K a _ _ _ h_t (hu (Or.inr (Or.inr (Or.inr (Or.inr c_1_11)))))) ⟨hx, hb, hml, hown, hts⟩ (va_cwS 3 hts gX3_does_X3_trade rfl rfl rfl (by decide +kernel) ⟨Nat.le_of_ble_eq_true rfl, Nat.le_of_ble_eq_true rfl⟩) hK hP hD hS hA rfl hl.1 rfl (Nat.le_of_ble_eq_true rfl) (Nat.zero_le _) (Nat.zero_le _) dX3_does_220 (fun H locs hP hD hS => ?_)
    obtain ⟨s15, es15⟩ : ∃ zz : SM, f_X3_trade_LO s14 t u = zz := ⟨_, rfl⟩
    rw [es15] at hP hD
    refine lv_aload_n hx hb dX3_does_223 rfl (lv_at hl 0 rfl) ?_
    refine va_get (D := D) (ci := 2) (C := RX3) (T := TX3) (N := 21) hx hb hts hinX3 hown hK hP 0 rfl rfl 6 (by decide) k30 (fun _ h9 => h9) rfl dX3_does_224 ?_
    refine lv_iload_n hx hb dX3_does_227 rfl (lv_at hl 2 rfl) ?_
    refine lv_iload_n hx hb dX3_does_228 rfl (lv_at hl 3 rfl) ?_
    refine cl_SV (c_X3_trade_HI l D K a _ _ _ h_t (hu (Or.inr (Or.inr (Or.inr (Or.inr c_1_11)))))) ⟨hx, hb, hml, hown, hts⟩ (va_cwS 3 hts gX3_does_X3_trade rfl rfl rfl (by decide +kernel) ⟨Nat.le_of_ble_eq_true rfl, Nat.le_of_ble_eq_true rfl⟩) hK hP hD hS hA rfl hl.1 rfl (Nat.le_of_ble_eq_true rfl) (Nat.zero_le _) (Nat.zero_le _) dX3_does_229 (fun H locs hP hD hS => ?_)
    obtain ⟨s16, es16⟩ : ∃ zz : SM, f_X3_trade_HI s15 t u = zz := ⟨_, rfl⟩
    rw [es16] at hP hD
    refine lv_goto (tgt := 365) hx hb dX3_does_232 (by decide) ?_
    subst es16 es15 es14 es13 es12 es11
    exact rt_V (s1 := _) hx hb hr hlk hK hP hD hS (Eq.symm (Eq.trans (if_neg c_1_0) (Eq.trans (if_neg c_1_1) (Eq.trans (if_neg c_1_2) (Eq.trans (if_neg c_1_3) (Eq.trans (if_neg c_1_4) (Eq.trans (if_neg c_1_5) (Eq.trans (if_neg c_1_6) (Eq.trans (if_neg c_1_7) (Eq.trans (if_neg c_1_8) (Eq.trans (if_neg c_1_9) (Eq.trans (if_neg c_1_10) (Eq.trans (if_pos c_1_11) (rfl)))))))))))))) dX3_does_365
  by_cases c_1_12 : n = 12
  · refine lv_tableIn (tgt := 235) (off := 234) hx hb dX3_does_1 (by rw [c_1_12]; decide) (by rw [c_1_12]; decide) (by rw [c_1_12]; rfl) (by decide) ?_
    refine lv_aload_n hx hb dX3_does_235 rfl (lv_at hl 0 rfl) ?_
    refine lv_iload_n hx hb dX3_does_236 rfl (lv_at hl 2 rfl) ?_
    refine cl_V (c_X3_climb l D K a _ _ h_t) ⟨hx, hb, hml, hown, hts⟩ (cwV 1 hts gX3_does_X3_climb rfl rfl rfl (by decide +kernel) ⟨Nat.le_of_ble_eq_true rfl, Nat.le_of_ble_eq_true rfl⟩) hK hP hD hS hA rfl rfl rfl rfl hl.1 rfl (Nat.le_of_ble_eq_true rfl) (Nat.zero_le _) (Nat.zero_le _) dX3_does_237 (fun H locs hP hD hS => ?_)
    obtain ⟨s17, es17⟩ : ∃ zz : SM, f_X3_climb s t = zz := ⟨_, rfl⟩
    rw [es17] at hP hD
    refine lv_goto (tgt := 365) hx hb dX3_does_240 (by decide) ?_
    subst es17
    exact rt_V (s1 := _) hx hb hr hlk hK hP hD hS (Eq.symm (Eq.trans (if_neg c_1_0) (Eq.trans (if_neg c_1_1) (Eq.trans (if_neg c_1_2) (Eq.trans (if_neg c_1_3) (Eq.trans (if_neg c_1_4) (Eq.trans (if_neg c_1_5) (Eq.trans (if_neg c_1_6) (Eq.trans (if_neg c_1_7) (Eq.trans (if_neg c_1_8) (Eq.trans (if_neg c_1_9) (Eq.trans (if_neg c_1_10) (Eq.trans (if_neg c_1_11) (Eq.trans (if_pos c_1_12) (rfl))))))))))))))) dX3_does_365
  by_cases c_1_13 : n = 13
  · refine lv_tableIn (tgt := 243) (off := 242) hx hb dX3_does_1 (by rw [c_1_13]; decide) (by rw [c_1_13]; decide) (by rw [c_1_13]; rfl) (by decide) ?_
    refine lv_aload_n hx hb dX3_does_243 rfl (lv_at hl 0 rfl) ?_
    refine va_get (D := D) (ci := 2) (C := RX3) (T := TX3) (N := 21) hx hb hts hinX3 hown hK hP 0 rfl rfl 1 (by decide) k13 (fun _ h9 => h9) rfl dX3_does_244 ?_
    refine lv_iload_n hx hb dX3_does_247 rfl (lv_at hl 2 rfl) ?_
    refine lv_aload_n hx hb dX3_does_248 rfl (lv_at hl 0 rfl) ?_
    refine va_get (D := D) (ci := 2) (C := RX3) (T := TX3) (N := 21) hx hb hts hinX3 hown hK hP 0 rfl rfl 1 (by decide) k13 (fun _ h9 => h9) rfl dX3_does_249 ?_
    refine lv_iload_n hx hb dX3_does_252 rfl (lv_at hl 2 rfl) ?_
    refine va_lald hx hb hK hP 2 1 rfl rfl h_t dX3_does_253 ?_
    refine lv_bipush (v := 52) hx hb dX3_does_254 (by decide) ?_
    refine cl_Pl (c_X3_half l _ _) ⟨hx, hb, hml, hown, hts⟩ (va_cwS 2 hts gX3_does_X3_half rfl rfl rfl (by decide +kernel) ⟨Nat.le_of_ble_eq_true rfl, Nat.le_of_ble_eq_true rfl⟩) rfl hl.1 rfl (Nat.le_of_ble_eq_true rfl) (Nat.zero_le _) (Nat.zero_le _) dX3_does_256 ?_
    refine va_last hx hb hK hP hD hS 2 1 rfl rfl h_t dX3_does_259 (fun H locs hP hD hS => ?_)
    have hP : va_P D vwCl (wM K a (pM_L s (vp_updL (gM_L s) t.toNatClampNeg (f_X3_half ((gM_L s) t.toNatClampNeg) 52)))) H := hP
    have hD : va_D A (wM K a (pM_L s (vp_updL (gM_L s) t.toNatClampNeg (f_X3_half ((gM_L s) t.toNatClampNeg) 52)))) := hD
    refine lv_aload_n hx hb dX3_does_260 rfl (lv_at hl 0 rfl) ?_
    refine va_get (D := D) (ci := 2) (C := RX3) (T := TX3) (N := 21) hx hb hts hinX3 hown hK hP 0 rfl rfl 2 (by decide) k17 (fun _ h9 => h9) rfl dX3_does_261 ?_
    refine lv_iload_n hx hb dX3_does_264 rfl (lv_at hl 2 rfl) ?_
    refine lv_aload_n hx hb dX3_does_265 rfl (lv_at hl 0 rfl) ?_
    refine va_get (D := D) (ci := 2) (C := RX3) (T := TX3) (N := 21) hx hb hts hinX3 hown hK hP 0 rfl rfl 2 (by decide) k17 (fun _ h9 => h9) rfl dX3_does_266 ?_
    refine lv_iload_n hx hb dX3_does_269 rfl (lv_at hl 2 rfl) ?_
    refine va_iald hx hb hK hP 3 0 rfl rfl h_t dX3_does_270 ?_
    refine cl_Pl (c_X3_thin l _) ⟨hx, hb, hml, hown, hts⟩ (va_cwS 1 hts gX3_does_X3_thin rfl rfl rfl (by decide +kernel) ⟨Nat.le_of_ble_eq_true rfl, Nat.le_of_ble_eq_true rfl⟩) rfl hl.1 rfl (Nat.le_of_ble_eq_true rfl) (Nat.zero_le _) (Nat.zero_le _) dX3_does_271 ?_
    refine lv_bipush (v := 23) hx hb dX3_does_274 (by decide) ?_
    refine cl_Pl (c_X3_half l _ _) ⟨hx, hb, hml, hown, hts⟩ (va_cwS 2 hts gX3_does_X3_half rfl rfl rfl (by decide +kernel) ⟨Nat.le_of_ble_eq_true rfl, Nat.le_of_ble_eq_true rfl⟩) rfl hl.1 rfl (Nat.le_of_ble_eq_true rfl) (Nat.zero_le _) (Nat.zero_le _) dX3_does_276 ?_
    refine lv_l2i hx hb dX3_does_279 rfl ?_
    refine va_iast hx hb hK hP hD hS 3 0 rfl rfl h_t dX3_does_280 (fun H locs hP hD hS => ?_)
    have hP : va_P D vwCl (wM K a (pM_P (pM_L s (vp_updL (gM_L s) t.toNatClampNeg (f_X3_half ((gM_L s) t.toNatClampNeg) 52))) (upd (gM_P s) t.toNatClampNeg (Int64.toInt32 (f_X3_half (f_X3_thin ((gM_P s) t.toNatClampNeg)) 23))))) H := hP
    have hD : va_D A (wM K a (pM_P (pM_L s (vp_updL (gM_L s) t.toNatClampNeg (f_X3_half ((gM_L s) t.toNatClampNeg) 52))) (upd (gM_P s) t.toNatClampNeg (Int64.toInt32 (f_X3_half (f_X3_thin ((gM_P s) t.toNatClampNeg)) 23))))) := hD
    refine lv_goto (tgt := 365) hx hb dX3_does_281 (by decide) ?_
    exact rt_V (s1 := _) hx hb hr hlk hK hP hD hS (Eq.symm (Eq.trans (if_neg c_1_0) (Eq.trans (if_neg c_1_1) (Eq.trans (if_neg c_1_2) (Eq.trans (if_neg c_1_3) (Eq.trans (if_neg c_1_4) (Eq.trans (if_neg c_1_5) (Eq.trans (if_neg c_1_6) (Eq.trans (if_neg c_1_7) (Eq.trans (if_neg c_1_8) (Eq.trans (if_neg c_1_9) (Eq.trans (if_neg c_1_10) (Eq.trans (if_neg c_1_11) (Eq.trans (if_neg c_1_12) (Eq.trans (if_pos c_1_13) (rfl)))))))))))))))) dX3_does_365
  by_cases c_1_14 : n = 14
  · refine lv_tableIn (tgt := 284) (off := 283) hx hb dX3_does_1 (by rw [c_1_14]; decide) (by rw [c_1_14]; decide) (by rw [c_1_14]; rfl) (by decide) ?_
    refine lv_aload_n hx hb dX3_does_284 rfl (lv_at hl 0 rfl) ?_
    refine va_get (D := D) (ci := 2) (C := RX3) (T := TX3) (N := 21) hx hb hts hinX3 hown hK hP 0 rfl rfl 1 (by decide) k13 (fun _ h9 => h9) rfl dX3_does_285 ?_
    refine lv_iload_n hx hb dX3_does_288 rfl (lv_at hl 2 rfl) ?_
    refine lv_aload_n hx hb dX3_does_289 rfl (lv_at hl 0 rfl) ?_
    refine va_get (D := D) (ci := 2) (C := RX3) (T := TX3) (N := 21) hx hb hts hinX3 hown hK hP 0 rfl rfl 1 (by decide) k13 (fun _ h9 => h9) rfl dX3_does_290 ?_
    refine lv_iload_n hx hb dX3_does_293 rfl (lv_at hl 2 rfl) ?_
    refine va_lald hx hb hK hP 2 1 rfl rfl h_t dX3_does_294 ?_
    refine lv_bipush (v := 52) hx hb dX3_does_295 (by decide) ?_
    refine cl_Pl (c_X3_twice l _ _) ⟨hx, hb, hml, hown, hts⟩ (va_cwS 2 hts gX3_does_X3_twice rfl rfl rfl (by decide +kernel) ⟨Nat.le_of_ble_eq_true rfl, Nat.le_of_ble_eq_true rfl⟩) rfl hl.1 rfl (Nat.le_of_ble_eq_true rfl) (Nat.zero_le _) (Nat.zero_le _) dX3_does_297 ?_
    refine va_last hx hb hK hP hD hS 2 1 rfl rfl h_t dX3_does_300 (fun H locs hP hD hS => ?_)
    have hP : va_P D vwCl (wM K a (pM_L s (vp_updL (gM_L s) t.toNatClampNeg (f_X3_twice ((gM_L s) t.toNatClampNeg) 52)))) H := hP
    have hD : va_D A (wM K a (pM_L s (vp_updL (gM_L s) t.toNatClampNeg (f_X3_twice ((gM_L s) t.toNatClampNeg) 52)))) := hD
    refine lv_aload_n hx hb dX3_does_301 rfl (lv_at hl 0 rfl) ?_
    refine va_get (D := D) (ci := 2) (C := RX3) (T := TX3) (N := 21) hx hb hts hinX3 hown hK hP 0 rfl rfl 2 (by decide) k17 (fun _ h9 => h9) rfl dX3_does_302 ?_
    refine lv_iload_n hx hb dX3_does_305 rfl (lv_at hl 2 rfl) ?_
    refine lv_aload_n hx hb dX3_does_306 rfl (lv_at hl 0 rfl) ?_
    refine va_get (D := D) (ci := 2) (C := RX3) (T := TX3) (N := 21) hx hb hts hinX3 hown hK hP 0 rfl rfl 2 (by decide) k17 (fun _ h9 => h9) rfl dX3_does_307 ?_
    refine lv_iload_n hx hb dX3_does_310 rfl (lv_at hl 2 rfl) ?_
    refine va_iald hx hb hK hP 3 0 rfl rfl h_t dX3_does_311 ?_
    refine cl_Pl (c_X3_thin l _) ⟨hx, hb, hml, hown, hts⟩ (va_cwS 1 hts gX3_does_X3_thin rfl rfl rfl (by decide +kernel) ⟨Nat.le_of_ble_eq_true rfl, Nat.le_of_ble_eq_true rfl⟩) rfl hl.1 rfl (Nat.le_of_ble_eq_true rfl) (Nat.zero_le _) (Nat.zero_le _) dX3_does_312 ?_
    refine lv_bipush (v := 23) hx hb dX3_does_315 (by decide) ?_
    refine cl_Pl (c_X3_twice l _ _) ⟨hx, hb, hml, hown, hts⟩ (va_cwS 2 hts gX3_does_X3_twice rfl rfl rfl (by decide +kernel) ⟨Nat.le_of_ble_eq_true rfl, Nat.le_of_ble_eq_true rfl⟩) rfl hl.1 rfl (Nat.le_of_ble_eq_true rfl) (Nat.zero_le _) (Nat.zero_le _) dX3_does_317 ?_
    refine lv_l2i hx hb dX3_does_320 rfl ?_
    refine va_iast hx hb hK hP hD hS 3 0 rfl rfl h_t dX3_does_321 (fun H locs hP hD hS => ?_)
    have hP : va_P D vwCl (wM K a (pM_P (pM_L s (vp_updL (gM_L s) t.toNatClampNeg (f_X3_twice ((gM_L s) t.toNatClampNeg) 52))) (upd (gM_P s) t.toNatClampNeg (Int64.toInt32 (f_X3_twice (f_X3_thin ((gM_P s) t.toNatClampNeg)) 23))))) H := hP
    have hD : va_D A (wM K a (pM_P (pM_L s (vp_updL (gM_L s) t.toNatClampNeg (f_X3_twice ((gM_L s) t.toNatClampNeg) 52))) (upd (gM_P s) t.toNatClampNeg (Int64.toInt32 (f_X3_twice (f_X3_thin ((gM_P s) t.toNatClampNeg)) 23))))) := hD
    refine lv_goto (tgt := 365) hx hb dX3_does_322 (by decide) ?_
    exact rt_V (s1 := _) hx hb hr hlk hK hP hD hS (Eq.symm (Eq.trans (if_neg c_1_0) (Eq.trans (if_neg c_1_1) (Eq.trans (if_neg c_1_2) (Eq.trans (if_neg c_1_3) (Eq.trans (if_neg c_1_4) (Eq.trans (if_neg c_1_5) (Eq.trans (if_neg c_1_6) (Eq.trans (if_neg c_1_7) (Eq.trans (if_neg c_1_8) (Eq.trans (if_neg c_1_9) (Eq.trans (if_neg c_1_10) (Eq.trans (if_neg c_1_11) (Eq.trans (if_neg c_1_12) (Eq.trans (if_neg c_1_13) (Eq.trans (if_pos c_1_14) (rfl))))))))))))))))) dX3_does_365
  have n_1_0 := sw_i c_1_0 (k := 0) (by decide)
  have n_1_1 := sw_i c_1_1 (k := 1) (by decide)
  have n_1_2 := sw_i c_1_2 (k := 2) (by decide)
  have n_1_3 := sw_i c_1_3 (k := 3) (by decide)
  have n_1_4 := sw_i c_1_4 (k := 4) (by decide)
  have n_1_5 := sw_i c_1_5 (k := 5) (by decide)
  have n_1_6 := sw_i c_1_6 (k := 6) (by decide)
  have n_1_7 := sw_i c_1_7 (k := 7) (by decide)
  have n_1_8 := sw_i c_1_8 (k := 8) (by decide)
  have n_1_9 := sw_i c_1_9 (k := 9) (by decide)
  have n_1_10 := sw_i c_1_10 (k := 10) (by decide)
  have n_1_11 := sw_i c_1_11 (k := 11) (by decide)
  have n_1_12 := sw_i c_1_12 (k := 12) (by decide)
  have n_1_13 := sw_i c_1_13 (k := 13) (by decide)
  have n_1_14 := sw_i c_1_14 (k := 14) (by decide)
  refine lv_tableOut (tgt := 325) hx hb dX3_does_1 (by omega) (by decide) ?_
  refine lv_aload_n hx hb dX3_does_325 rfl (lv_at hl 0 rfl) ?_
  refine va_get (D := D) (ci := 2) (C := RX3) (T := TX3) (N := 21) hx hb hts hinX3 hown hK hP 0 rfl rfl 1 (by decide) k13 (fun _ h9 => h9) rfl dX3_does_326 ?_
  refine lv_iload_n hx hb dX3_does_329 rfl (lv_at hl 2 rfl) ?_
  refine lv_aload_n hx hb dX3_does_330 rfl (lv_at hl 0 rfl) ?_
  refine va_get (D := D) (ci := 2) (C := RX3) (T := TX3) (N := 21) hx hb hts hinX3 hown hK hP 0 rfl rfl 7 (by decide) k153 (fun _ h9 => h9) rfl dX3_does_331 ?_
  refine va_last hx hb hK hP hD hS 2 1 rfl rfl h_t dX3_does_334 (fun H locs hP hD hS => ?_)
  have hP : va_P D vwCl (wM K a (pM_L s (vp_updL (gM_L s) t.toNatClampNeg (gM_ti s)))) H := hP
  have hD : va_D A (wM K a (pM_L s (vp_updL (gM_L s) t.toNatClampNeg (gM_ti s)))) := hD
  refine lv_aload_n hx hb dX3_does_335 rfl (lv_at hl 0 rfl) ?_
  refine va_get (D := D) (ci := 2) (C := RX3) (T := TX3) (N := 21) hx hb hts hinX3 hown hK hP 0 rfl rfl 2 (by decide) k17 (fun _ h9 => h9) rfl dX3_does_336 ?_
  refine lv_iload_n hx hb dX3_does_339 rfl (lv_at hl 2 rfl) ?_
  refine lv_aload_n hx hb dX3_does_340 rfl (lv_at hl 0 rfl) ?_
  refine va_get (D := D) (ci := 2) (C := RX3) (T := TX3) (N := 21) hx hb hts hinX3 hown hK hP 0 rfl rfl 8 (by decide) k157 (fun _ h9 => h9) rfl dX3_does_341 ?_
  refine va_iast hx hb hK hP hD hS 3 0 rfl rfl h_t dX3_does_344 (fun H locs hP hD hS => ?_)
  have hP : va_P D vwCl (wM K a (pM_P (pM_L s (vp_updL (gM_L s) t.toNatClampNeg (gM_ti s))) (upd (gM_P s) t.toNatClampNeg (gM_we s)))) H := hP
  have hD : va_D A (wM K a (pM_P (pM_L s (vp_updL (gM_L s) t.toNatClampNeg (gM_ti s))) (upd (gM_P s) t.toNatClampNeg (gM_we s)))) := hD
  refine lv_aload_n hx hb dX3_does_345 rfl (lv_at hl 0 rfl) ?_
  refine va_get (D := D) (ci := 2) (C := RX3) (T := TX3) (N := 21) hx hb hts hinX3 hown hK hP 0 rfl rfl 3 (by decide) k21 (fun _ h9 => h9) rfl dX3_does_346 ?_
  refine lv_iload_n hx hb dX3_does_349 rfl (lv_at hl 2 rfl) ?_
  refine lv_aload_n hx hb dX3_does_350 rfl (lv_at hl 0 rfl) ?_
  refine va_get (D := D) (ci := 2) (C := RX3) (T := TX3) (N := 21) hx hb hts hinX3 hown hK hP 0 rfl rfl 9 (by decide) k161 (fun _ h9 => h9) rfl dX3_does_351 ?_
  refine va_iast hx hb hK hP hD hS 4 0 rfl rfl h_t dX3_does_354 (fun H locs hP hD hS => ?_)
  have hP : va_P D vwCl (wM K a (pM_K (pM_P (pM_L s (vp_updL (gM_L s) t.toNatClampNeg (gM_ti s))) (upd (gM_P s) t.toNatClampNeg (gM_we s))) (upd (gM_K s) t.toNatClampNeg (gM_co s)))) H := hP
  have hD : va_D A (wM K a (pM_K (pM_P (pM_L s (vp_updL (gM_L s) t.toNatClampNeg (gM_ti s))) (upd (gM_P s) t.toNatClampNeg (gM_we s))) (upd (gM_K s) t.toNatClampNeg (gM_co s)))) := hD
  refine lv_aload_n hx hb dX3_does_355 rfl (lv_at hl 0 rfl) ?_
  refine va_get (D := D) (ci := 2) (C := RX3) (T := TX3) (N := 21) hx hb hts hinX3 hown hK hP 0 rfl rfl 4 (by decide) k24 (fun _ h9 => h9) rfl dX3_does_356 ?_
  refine lv_iload_n hx hb dX3_does_359 rfl (lv_at hl 2 rfl) ?_
  refine lv_aload_n hx hb dX3_does_360 rfl (lv_at hl 0 rfl) ?_
  refine va_get (D := D) (ci := 2) (C := RX3) (T := TX3) (N := 21) hx hb hts hinX3 hown hK hP 0 rfl rfl 10 (by decide) k164 (fun _ h9 => h9) rfl dX3_does_361 ?_
  refine va_last hx hb hK hP hD hS 5 1 rfl rfl h_t dX3_does_364 (fun H locs hP hD hS => ?_)
  have hP : va_P D vwCl (wM K a (pM_T (pM_K (pM_P (pM_L s (vp_updL (gM_L s) t.toNatClampNeg (gM_ti s))) (upd (gM_P s) t.toNatClampNeg (gM_we s))) (upd (gM_K s) t.toNatClampNeg (gM_co s))) (vp_updL (gM_T s) t.toNatClampNeg (gM_tu s)))) H := hP
  have hD : va_D A (wM K a (pM_T (pM_K (pM_P (pM_L s (vp_updL (gM_L s) t.toNatClampNeg (gM_ti s))) (upd (gM_P s) t.toNatClampNeg (gM_we s))) (upd (gM_K s) t.toNatClampNeg (gM_co s))) (vp_updL (gM_T s) t.toNatClampNeg (gM_tu s)))) := hD
  exact rt_V (s1 := _) hx hb hr hlk hK hP hD hS (Eq.symm (Eq.trans (if_neg c_1_0) (Eq.trans (if_neg c_1_1) (Eq.trans (if_neg c_1_2) (Eq.trans (if_neg c_1_3) (Eq.trans (if_neg c_1_4) (Eq.trans (if_neg c_1_5) (Eq.trans (if_neg c_1_6) (Eq.trans (if_neg c_1_7) (Eq.trans (if_neg c_1_8) (Eq.trans (if_neg c_1_9) (Eq.trans (if_neg c_1_10) (Eq.trans (if_neg c_1_11) (Eq.trans (if_neg c_1_12) (Eq.trans (if_neg c_1_13) (Eq.trans (if_neg c_1_14) (rfl))))))))))))))))) dX3_does_365

def f_X3_lackOf (s : SM) (n : Int32) (t : Int32) (u : Int32) : Int32 := if n < 0 then (5) else (if n ≤ 15 then (if (f_X3_lack s t) ≤ 0 then (if (f_X3_wantsOther n) = 0 then (0) else (if (f_X3_lack s u) ≤ 0 then (0) else (2 + (f_X3_lack s u)))) else (f_X3_lack s t)) else (5))
set_option maxHeartbeats 4000000 in
set_option maxRecDepth 100000 in
theorem c_X3_lackOf (l : Launch) (D : va_G) (K : ClassId × ClassId × ClassId) (a : Nat → Nat) (s : SM) (n : Int32) (t : Int32) (u : Int32)   : MetI l yX3_lackOf wsX3_lackOf { frames := 2, cells := 0, slots := 0, locals := 41 } D vwCl (tyK K) (wM K a) [.ref (a 0), .int n, .int t, .int u] s (f_X3_lackOf s n t u) s := by
  intro sz0
  refine en_W (cc := cX3_lackOf) (maxL := 4) (ret := (some .int)) (Qc := fun A => va_Qi (fun (x0 : Int32) (u0 : SM) => x0 = f_X3_lackOf s n t u ∧ u0 = s) (bs_a D vwCl (tyK K) (wM K a) A) A) (by decide) rfl (Nat.le_of_ble_eq_true rfl) ?_ sz0
  intro p e st m below meth c ls A hx hb hr hml hts hown hlk hA hK hP hD hS hl
  have hown : st.vm.findClass RX3 = some m.cls := hown
  have hl : lv_has ls 4 [(0, .ref (a 0)), (1, .int n), (2, .int t), (3, .int u)] := hl
  refine lv_iload_n hx hb dX3_lackOf_0 rfl (lv_at hl 1 rfl) ?_
  refine lv_if_lt (tgt := 10) hx hb dX3_lackOf_1 (by decide) (fun c_1 => ?_) (fun c_1 => ?_)
  · refine lv_iconst (v := 5) hx hb dX3_lackOf_10 (by decide) ?_
    exact rt_I hx hb hr hlk hK hP hD hS ⟨Eq.symm (Eq.trans (if_pos c_1) (rfl)), rfl⟩ dX3_lackOf_11
  · refine lv_iload_n hx hb dX3_lackOf_4 rfl (lv_at hl 1 rfl) ?_
    refine lv_bipush (v := 15) hx hb dX3_lackOf_5 (by decide) ?_
    refine lv_icmp_le (tgt := 12) hx hb dX3_lackOf_7 (by decide) (fun c_7 => ?_) (fun c_7 => ?_)
    · refine lv_aload_n hx hb dX3_lackOf_12 rfl (lv_at hl 0 rfl) ?_
      refine lv_iload_n hx hb dX3_lackOf_13 rfl (lv_at hl 2 rfl) ?_
      refine cl_I (c_X3_lack l D K a _ _ ) ⟨hx, hb, hml, hown, hts⟩ (cwV 1 hts gX3_lackOf_X3_lack rfl rfl rfl (by decide +kernel) ⟨Nat.le_of_ble_eq_true rfl, Nat.le_of_ble_eq_true rfl⟩) hK hP hD hS hA rfl rfl rfl rfl hl.1 rfl (Nat.le_of_ble_eq_true rfl) (Nat.zero_le _) (Nat.zero_le _) dX3_lackOf_14 (fun H locs hP hD hS => ?_)
      refine lv_if_le (tgt := 26) hx hb dX3_lackOf_17 (by decide) (fun c_17 => ?_) (fun c_17 => ?_)
      · refine lv_iload_n hx hb dX3_lackOf_26 rfl (lv_at hl 1 rfl) ?_
        refine cl_Pi (c_X3_wantsOther l _) ⟨hx, hb, hml, hown, hts⟩ (va_cwS 1 hts gX3_lackOf_X3_wantsOther rfl rfl rfl (by decide +kernel) ⟨Nat.le_of_ble_eq_true rfl, Nat.le_of_ble_eq_true rfl⟩) rfl hl.1 rfl (Nat.le_of_ble_eq_true rfl) (Nat.zero_le _) (Nat.zero_le _) dX3_lackOf_27 ?_
        refine lv_if_eq (tgt := 51) hx hb dX3_lackOf_30 (by decide) (fun c_30 => ?_) (fun c_30 => ?_)
        · refine lv_iconst (v := 0) hx hb dX3_lackOf_51 (by decide) ?_
          exact rt_I hx hb hr hlk hK hP hD hS ⟨Eq.symm (Eq.trans (if_neg c_1) (Eq.trans (if_pos c_7) (Eq.trans (if_pos c_17) (Eq.trans (if_pos c_30) (rfl))))), rfl⟩ dX3_lackOf_52
        · refine lv_aload_n hx hb dX3_lackOf_33 rfl (lv_at hl 0 rfl) ?_
          refine lv_iload_n hx hb dX3_lackOf_34 rfl (lv_at hl 3 rfl) ?_
          refine cl_I (c_X3_lack l D K a _ _ ) ⟨hx, hb, hml, hown, hts⟩ (cwV 1 hts gX3_lackOf_X3_lack rfl rfl rfl (by decide +kernel) ⟨Nat.le_of_ble_eq_true rfl, Nat.le_of_ble_eq_true rfl⟩) hK hP hD hS hA rfl rfl rfl rfl hl.1 rfl (Nat.le_of_ble_eq_true rfl) (Nat.zero_le _) (Nat.zero_le _) dX3_lackOf_35 (fun H locs hP hD hS => ?_)
          refine lv_if_le (tgt := 51) hx hb dX3_lackOf_38 (by decide) (fun c_38 => ?_) (fun c_38 => ?_)
          · refine lv_iconst (v := 0) hx hb dX3_lackOf_51 (by decide) ?_
            exact rt_I hx hb hr hlk hK hP hD hS ⟨Eq.symm (Eq.trans (if_neg c_1) (Eq.trans (if_pos c_7) (Eq.trans (if_pos c_17) (Eq.trans (if_neg c_30) (Eq.trans (if_pos c_38) (rfl)))))), rfl⟩ dX3_lackOf_52
          · refine lv_iconst (v := 2) hx hb dX3_lackOf_41 (by decide) ?_
            refine lv_aload_n hx hb dX3_lackOf_42 rfl (lv_at hl 0 rfl) ?_
            refine lv_iload_n hx hb dX3_lackOf_43 rfl (lv_at hl 3 rfl) ?_
            refine cl_I (c_X3_lack l D K a _ _ ) ⟨hx, hb, hml, hown, hts⟩ (cwV 1 hts gX3_lackOf_X3_lack rfl rfl rfl (by decide +kernel) ⟨Nat.le_of_ble_eq_true rfl, Nat.le_of_ble_eq_true rfl⟩) hK hP hD hS hA rfl rfl rfl rfl hl.1 rfl (Nat.le_of_ble_eq_true rfl) (Nat.zero_le _) (Nat.zero_le _) dX3_lackOf_44 (fun H locs hP hD hS => ?_)
            refine lv_iadd hx hb dX3_lackOf_47 ?_
            refine lv_goto (tgt := 52) hx hb dX3_lackOf_48 (by decide) ?_
            exact rt_I hx hb hr hlk hK hP hD hS ⟨Eq.symm (Eq.trans (if_neg c_1) (Eq.trans (if_pos c_7) (Eq.trans (if_pos c_17) (Eq.trans (if_neg c_30) (Eq.trans (if_neg c_38) (rfl)))))), rfl⟩ dX3_lackOf_52
      · refine lv_aload_n hx hb dX3_lackOf_20 rfl (lv_at hl 0 rfl) ?_
        refine lv_iload_n hx hb dX3_lackOf_21 rfl (lv_at hl 2 rfl) ?_
        refine cl_I (c_X3_lack l D K a _ _ ) ⟨hx, hb, hml, hown, hts⟩ (cwV 1 hts gX3_lackOf_X3_lack rfl rfl rfl (by decide +kernel) ⟨Nat.le_of_ble_eq_true rfl, Nat.le_of_ble_eq_true rfl⟩) hK hP hD hS hA rfl rfl rfl rfl hl.1 rfl (Nat.le_of_ble_eq_true rfl) (Nat.zero_le _) (Nat.zero_le _) dX3_lackOf_22 (fun H locs hP hD hS => ?_)
        exact rt_I hx hb hr hlk hK hP hD hS ⟨Eq.symm (Eq.trans (if_neg c_1) (Eq.trans (if_pos c_7) (Eq.trans (if_neg c_17) (rfl)))), rfl⟩ dX3_lackOf_25
    · refine lv_iconst (v := 5) hx hb dX3_lackOf_10 (by decide) ?_
      exact rt_I hx hb hr hlk hK hP hD hS ⟨Eq.symm (Eq.trans (if_neg c_1) (Eq.trans (if_neg c_7) (rfl))), rfl⟩ dX3_lackOf_11

def f_X3_refused (s : SM)  : Int32 := gM_re s
set_option maxHeartbeats 4000000 in
set_option maxRecDepth 100000 in
theorem c_X3_refused (l : Launch) (D : va_G) (K : ClassId × ClassId × ClassId) (a : Nat → Nat) (s : SM)    : MetI l yX3_refused wsX3_refused { frames := 0, cells := 0, slots := 0, locals := 0 } D vwCl (tyK K) (wM K a) [.ref (a 0)] s (f_X3_refused s ) s := by
  intro sz0
  refine en_W (cc := cX3_refused) (maxL := 1) (ret := (some .int)) (Qc := fun A => va_Qi (fun (x0 : Int32) (u0 : SM) => x0 = f_X3_refused s  ∧ u0 = s) (bs_a D vwCl (tyK K) (wM K a) A) A) (by decide) rfl (Nat.le_of_ble_eq_true rfl) ?_ sz0
  intro p e st m below meth c ls A hx hb hr hml hts hown hlk hA hK hP hD hS hl
  have hown : st.vm.findClass RX3 = some m.cls := hown
  have hl : lv_has ls 1 [(0, .ref (a 0))] := hl
  have hinX3 : ∀ w ∈ u_ws RX3 TX3 21, w ∈ wsX3_refused := fun w h => List.mem_cons_of_mem _ (List.mem_append_right _ h)
  have k114 := hts (.fieldLink RX3 114 "PuppetBarModel" "refusal" "I") (by decide +kernel)
  refine lv_aload_n hx hb dX3_refused_0 rfl (lv_at hl 0 rfl) ?_
  refine va_get (D := D) (ci := 2) (C := RX3) (T := TX3) (N := 21) hx hb hts hinX3 hown hK hP 0 rfl rfl 11 (by decide) k114 (fun _ h9 => h9) rfl dX3_refused_1 ?_
  exact rt_I hx hb hr hlk hK hP hD hS ⟨Eq.symm (rfl), rfl⟩ dX3_refused_4

def f_X3_forget (s : SM)  : Int32 × SM := let x1 := gM_st s; (x1, pM_st s 0)
set_option maxHeartbeats 4000000 in
set_option maxRecDepth 100000 in
theorem c_X3_forget (l : Launch) (D : va_G) (K : ClassId × ClassId × ClassId) (a : Nat → Nat) (s : SM)    : MetI l yX3_forget wsX3_forget { frames := 0, cells := 0, slots := 0, locals := 0 } D vwCl (tyK K) (wM K a) [.ref (a 0)] s (f_X3_forget s ).1 (f_X3_forget s ).2 := by
  intro sz0
  refine en_W (cc := cX3_forget) (maxL := 2) (ret := (some .int)) (Qc := fun A => va_Qi (fun (x0 : Int32) (u0 : SM) => x0 = (f_X3_forget s ).1 ∧ u0 = (f_X3_forget s ).2) (bs_a D vwCl (tyK K) (wM K a) A) A) (by decide) rfl (Nat.le_of_ble_eq_true rfl) ?_ sz0
  intro p e st m below meth c ls A hx hb hr hml hts hown hlk hA hK hP hD hS hl
  have hown : st.vm.findClass RX3 = some m.cls := hown
  have hl : lv_has ls 2 [(0, .ref (a 0))] := hl
  have hinX3 : ∀ w ∈ u_ws RX3 TX3 21, w ∈ wsX3_forget := fun w h => List.mem_cons_of_mem _ (List.mem_append_right _ h)
  have k221 := hts (.fieldLink RX3 221 "PuppetBarModel" "steps" "I") (by decide +kernel)
  refine lv_aload_n hx hb dX3_forget_0 rfl (lv_at hl 0 rfl) ?_
  refine va_get (D := D) (ci := 2) (C := RX3) (T := TX3) (N := 21) hx hb hts hinX3 hown hK hP 0 rfl rfl 12 (by decide) k221 (fun _ h9 => h9) rfl dX3_forget_1 ?_
  refine tpi (fun x1 ex1 => ?_)
  refine lv_istore_n (lv' := [(1, .int x1), (0, .ref (a 0))]) hx hb dX3_forget_4 rfl hl (by decide) rfl (fun ls hl => ?_)
  refine lv_aload_n hx hb dX3_forget_5 rfl (lv_at hl 1 rfl) ?_
  refine lv_iconst (v := 0) hx hb dX3_forget_6 (by decide) ?_
  refine va_put (D := D) (ci := 2) (ty := .int) (C := RX3) (T := TX3) (N := 21) hx hb hts hinX3 tyX3 tyX3_ok nmX3 hown hK hP hD hS 0 rfl rfl 12 (by decide) k221 (fun _ h9 => h9) rfl (by decide +kernel) rfl rfl (Nat.le_of_ble_eq_true rfl) dX3_forget_7 (fun H locs hP hD hS => ?_)
  have hP : va_P D vwCl (wM K a (pM_st s 0)) H := hP
  have hD : va_D A (wM K a (pM_st s 0)) := hD
  refine lv_iload_n hx hb dX3_forget_10 rfl (lv_at hl 0 rfl) ?_
  subst ex1
  exact rt_I hx hb hr hlk hK hP hD hS (pr_of (rfl)) dX3_forget_11

def f_X3_bar (s : SM) (k : Int32) : Int64 := if k = 0 then (gM_ti s) else (if k = 1 then (Int32.toInt64 (gM_we s)) else (if k = 2 then (Int32.toInt64 (gM_co s)) else (if k = 3 then (gM_tu s) else (0))))
set_option maxHeartbeats 4000000 in
set_option maxRecDepth 100000 in
theorem c_X3_bar (l : Launch) (D : va_G) (K : ClassId × ClassId × ClassId) (a : Nat → Nat) (s : SM) (k : Int32)   : MetL l yX3_bar wsX3_bar { frames := 0, cells := 0, slots := 0, locals := 0 } D vwCl (tyK K) (wM K a) [.ref (a 0), .int k] s (f_X3_bar s k) s := by
  intro sz0
  refine en_W (cc := cX3_bar) (maxL := 2) (ret := (some .long)) (Qc := fun A => va_Ql (fun (x0 : Int64) (u0 : SM) => x0 = f_X3_bar s k ∧ u0 = s) (bs_a D vwCl (tyK K) (wM K a) A) A) (by decide) rfl (Nat.le_of_ble_eq_true rfl) ?_ sz0
  intro p e st m below meth c ls A hx hb hr hml hts hown hlk hA hK hP hD hS hl
  have hown : st.vm.findClass RX3 = some m.cls := hown
  have hl : lv_has ls 2 [(0, .ref (a 0)), (1, .int k)] := hl
  have hinX3 : ∀ w ∈ u_ws RX3 TX3 21, w ∈ wsX3_bar := fun w h => List.mem_cons_of_mem _ (List.mem_append_right _ h)
  have k164 := hts (.fieldLink RX3 164 "PuppetBarModel" "turn" "J") (by decide +kernel)
  have k161 := hts (.fieldLink RX3 161 "PuppetBarModel" "count" "I") (by decide +kernel)
  have k157 := hts (.fieldLink RX3 157 "PuppetBarModel" "weight" "I") (by decide +kernel)
  have k153 := hts (.fieldLink RX3 153 "PuppetBarModel" "tilt" "J") (by decide +kernel)
  refine lv_iload_n hx hb dX3_bar_0 rfl (lv_at hl 1 rfl) ?_
  refine lv_if_ne (tgt := 11) hx hb dX3_bar_1 (by decide) (fun c_1 => ?_) (fun c_1 => ?_)
  · refine lv_iload_n hx hb dX3_bar_11 rfl (lv_at hl 1 rfl) ?_
    refine lv_iconst (v := 1) hx hb dX3_bar_12 (by decide) ?_
    refine lv_icmp_ne (tgt := 24) hx hb dX3_bar_13 (by decide) (fun c_13 => ?_) (fun c_13 => ?_)
    · refine lv_iload_n hx hb dX3_bar_24 rfl (lv_at hl 1 rfl) ?_
      refine lv_iconst (v := 2) hx hb dX3_bar_25 (by decide) ?_
      refine lv_icmp_ne (tgt := 37) hx hb dX3_bar_26 (by decide) (fun c_26 => ?_) (fun c_26 => ?_)
      · refine lv_iload_n hx hb dX3_bar_37 rfl (lv_at hl 1 rfl) ?_
        refine lv_iconst (v := 3) hx hb dX3_bar_38 (by decide) ?_
        refine lv_icmp_ne (tgt := 49) hx hb dX3_bar_39 (by decide) (fun c_39 => ?_) (fun c_39 => ?_)
        · refine lv_lconst (v := 0) hx hb dX3_bar_49 (by decide) ?_
          exact rt_L hx hb hr hlk hK hP hD hS ⟨Eq.symm (Eq.trans (if_neg c_1) (Eq.trans (if_neg c_13) (Eq.trans (if_neg c_26) (Eq.trans (if_neg c_39) (rfl))))), rfl⟩ dX3_bar_50
        · refine lv_aload_n hx hb dX3_bar_42 rfl (lv_at hl 0 rfl) ?_
          refine va_get (D := D) (ci := 2) (C := RX3) (T := TX3) (N := 21) hx hb hts hinX3 hown hK hP 0 rfl rfl 10 (by decide) k164 (fun _ h9 => h9) rfl dX3_bar_43 ?_
          refine lv_goto (tgt := 50) hx hb dX3_bar_46 (by decide) ?_
          exact rt_L hx hb hr hlk hK hP hD hS ⟨Eq.symm (Eq.trans (if_neg c_1) (Eq.trans (if_neg c_13) (Eq.trans (if_neg c_26) (Eq.trans (if_pos c_39) (rfl))))), rfl⟩ dX3_bar_50
      · refine lv_aload_n hx hb dX3_bar_29 rfl (lv_at hl 0 rfl) ?_
        refine va_get (D := D) (ci := 2) (C := RX3) (T := TX3) (N := 21) hx hb hts hinX3 hown hK hP 0 rfl rfl 9 (by decide) k161 (fun _ h9 => h9) rfl dX3_bar_30 ?_
        refine lv_i2l hx hb dX3_bar_33 rfl ?_
        refine lv_goto (tgt := 50) hx hb dX3_bar_34 (by decide) ?_
        exact rt_L hx hb hr hlk hK hP hD hS ⟨Eq.symm (Eq.trans (if_neg c_1) (Eq.trans (if_neg c_13) (Eq.trans (if_pos c_26) (rfl)))), rfl⟩ dX3_bar_50
    · refine lv_aload_n hx hb dX3_bar_16 rfl (lv_at hl 0 rfl) ?_
      refine va_get (D := D) (ci := 2) (C := RX3) (T := TX3) (N := 21) hx hb hts hinX3 hown hK hP 0 rfl rfl 8 (by decide) k157 (fun _ h9 => h9) rfl dX3_bar_17 ?_
      refine lv_i2l hx hb dX3_bar_20 rfl ?_
      refine lv_goto (tgt := 50) hx hb dX3_bar_21 (by decide) ?_
      exact rt_L hx hb hr hlk hK hP hD hS ⟨Eq.symm (Eq.trans (if_neg c_1) (Eq.trans (if_pos c_13) (rfl))), rfl⟩ dX3_bar_50
  · refine lv_aload_n hx hb dX3_bar_4 rfl (lv_at hl 0 rfl) ?_
    refine va_get (D := D) (ci := 2) (C := RX3) (T := TX3) (N := 21) hx hb hts hinX3 hown hK hP 0 rfl rfl 7 (by decide) k153 (fun _ h9 => h9) rfl dX3_bar_5 ?_
    refine lv_goto (tgt := 50) hx hb dX3_bar_8 (by decide) ?_
    exact rt_L hx hb hr hlk hK hP hD hS ⟨Eq.symm (Eq.trans (if_pos c_1) (rfl)), rfl⟩ dX3_bar_50
