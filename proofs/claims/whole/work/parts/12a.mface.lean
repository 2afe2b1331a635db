def f_X3_set (s : SM) (t : Int32) (k : Int32) (b : Int64) : Int32 × SM := if k < 0 then ((5, pM_re s 5)) else (if k ≤ 5 then (if (f_X3_lack s t) = 0 then (if (f_X3_isReal k) = 0 then (if (f_X3_lack s t) ≤ 0 then (if k = 0 then ((0, pM_L (pM_re s (f_X3_lack s t)) (vp_updL (gM_L s) t.toNatClampNeg b))) else (if k = 1 then ((0, pM_P (pM_re s (f_X3_lack s t)) (upd (gM_P s) t.toNatClampNeg (Int64.toInt32 b)))) else (if k = 2 then ((0, pM_K (pM_re s (f_X3_lack s t)) (upd (gM_K s) t.toNatClampNeg (Int64.toInt32 b)))) else (if k = 3 then ((0, pM_T (pM_re s (f_X3_lack s t)) (vp_updL (gM_T s) t.toNatClampNeg b))) else (if k = 4 then ((0, pM_LO (pM_re s (f_X3_lack s t)) (vp_updL (gM_LO s) t.toNatClampNeg b))) else ((0, pM_HI (pM_re s (f_X3_lack s t)) (vp_updL (gM_HI s) t.toNatClampNeg b)))))))) else ((f_X3_lack s t, pM_re s (f_X3_lack s t)))) else (if k = 1 then (if (f_X3_isNumber (f_X3_thin (Int64.toInt32 b)) 23) = 0 then ((6, pM_re s 6)) else (if (f_X3_lack s t) ≤ 0 then (if k = 0 then ((0, pM_L (pM_re s (f_X3_lack s t)) (vp_updL (gM_L s) t.toNatClampNeg b))) else (if k = 1 then ((0, pM_P (pM_re s (f_X3_lack s t)) (upd (gM_P s) t.toNatClampNeg (Int64.toInt32 b)))) else (if k = 2 then ((0, pM_K (pM_re s (f_X3_lack s t)) (upd (gM_K s) t.toNatClampNeg (Int64.toInt32 b)))) else (if k = 3 then ((0, pM_T (pM_re s (f_X3_lack s t)) (vp_updL (gM_T s) t.toNatClampNeg b))) else (if k = 4 then ((0, pM_LO (pM_re s (f_X3_lack s t)) (vp_updL (gM_LO s) t.toNatClampNeg b))) else ((0, pM_HI (pM_re s (f_X3_lack s t)) (vp_updL (gM_HI s) t.toNatClampNeg b)))))))) else ((f_X3_lack s t, pM_re s (f_X3_lack s t))))) else (if (f_X3_isNumber b 52) = 0 then ((6, pM_re s 6)) else (if (f_X3_lack s t) ≤ 0 then (if k = 0 then ((0, pM_L (pM_re s (f_X3_lack s t)) (vp_updL (gM_L s) t.toNatClampNeg b))) else (if k = 1 then ((0, pM_P (pM_re s (f_X3_lack s t)) (upd (gM_P s) t.toNatClampNeg (Int64.toInt32 b)))) else (if k = 2 then ((0, pM_K (pM_re s (f_X3_lack s t)) (upd (gM_K s) t.toNatClampNeg (Int64.toInt32 b)))) else (if k = 3 then ((0, pM_T (pM_re s (f_X3_lack s t)) (vp_updL (gM_T s) t.toNatClampNeg b))) else (if k = 4 then ((0, pM_LO (pM_re s (f_X3_lack s t)) (vp_updL (gM_LO s) t.toNatClampNeg b))) else ((0, pM_HI (pM_re s (f_X3_lack s t)) (vp_updL (gM_HI s) t.toNatClampNeg b)))))))) else ((f_X3_lack s t, pM_re s (f_X3_lack s t))))))) else (if (f_X3_lack s t) ≤ 0 then (if k = 0 then ((0, pM_L (pM_re s (f_X3_lack s t)) (vp_updL (gM_L s) t.toNatClampNeg b))) else (if k = 1 then ((0, pM_P (pM_re s (f_X3_lack s t)) (upd (gM_P s) t.toNatClampNeg (Int64.toInt32 b)))) else (if k = 2 then ((0, pM_K (pM_re s (f_X3_lack s t)) (upd (gM_K s) t.toNatClampNeg (Int64.toInt32 b)))) else (if k = 3 then ((0, pM_T (pM_re s (f_X3_lack s t)) (vp_updL (gM_T s) t.toNatClampNeg b))) else (if k = 4 then ((0, pM_LO (pM_re s (f_X3_lack s t)) (vp_updL (gM_LO s) t.toNatClampNeg b))) else ((0, pM_HI (pM_re s (f_X3_lack s t)) (vp_updL (gM_HI s) t.toNatClampNeg b)))))))) else ((f_X3_lack s t, pM_re s (f_X3_lack s t))))) else ((5, pM_re s 5)))
set_option maxHeartbeats 4000000 in
set_option maxRecDepth 100000 in
theorem c_X3_set (l : Launch) (D : va_G) (K : ClassId × ClassId × ClassId) (a : Nat → Nat) (s : SM) (t : Int32) (k : Int32) (b : Int64)   : MetI l yX3_set wsX3_set { frames := 3, cells := 0, slots := 0, locals := 64 } D vwCl (tyK K) (wM K a) [.ref (a 0), .int t, .int k, .long b] s (f_X3_set s t k b).1 (f_X3_set s t k b).2 := by
  intro sz0
  refine en_W (cc := cX3_set) (maxL := 5) (ret := (some .int)) (Qc := fun A => va_Qi (fun (x0 : Int32) (u0 : SM) => x0 = (f_X3_set s t k b).1 ∧ u0 = (f_X3_set s t k b).2) (bs_a D vwCl (tyK K) (wM K a) A) A) (by decide) rfl (Nat.le_of_ble_eq_true rfl) ?_ sz0
  intro p e st m below meth c ls A hx hb hr hml hts hown hlk hA hK hP hD hS hl
  have hown : st.vm.findClass RX3 = some m.cls := hown
  have hl : lv_has ls 5 [(0, .ref (a 0)), (1, .int t), (2, .int k), (3, .long b)] := hl
  have hinX3 : ∀ w ∈ u_ws RX3 TX3 21, w ∈ wsX3_set := fun w h => List.mem_cons_of_mem _ (List.mem_append_right _ h)
  have k114 := hts (.fieldLink RX3 114 "PuppetBarModel" "refusal" "I") (by decide +kernel)
  have k13 := hts (.fieldLink RX3 13 "PuppetBarModel" "length" "[J") (by decide +kernel)
  have k17 := hts (.fieldLink RX3 17 "PuppetBarModel" "pull" "[I") (by decide +kernel)
  have k21 := hts (.fieldLink RX3 21 "PuppetBarModel" "knots" "[I") (by decide +kernel)
  have k24 := hts (.fieldLink RX3 24 "PuppetBarModel" "twist" "[J") (by decide +kernel)
  have k27 := hts (.fieldLink RX3 27 "PuppetBarModel" "low" "[J") (by decide +kernel)
  have k30 := hts (.fieldLink RX3 30 "PuppetBarModel" "high" "[J") (by decide +kernel)
  refine lv_aload_n hx hb dX3_set_0 rfl (lv_at hl 0 rfl) ?_
  refine lv_iload_n hx hb dX3_set_1 rfl (lv_at hl 2 rfl) ?_
  refine lv_if_lt (tgt := 10) hx hb dX3_set_2 (by decide) (fun c_2 => ?_) (fun c_2 => ?_)
  · refine lv_iconst (v := 5) hx hb dX3_set_10 (by decide) ?_
    refine lv_goto (tgt := 19) hx hb dX3_set_11 (by decide) ?_
    refine va_put (D := D) (ci := 2) (ty := .int) (C := RX3) (T := TX3) (N := 21) hx hb hts hinX3 tyX3 tyX3_ok nmX3 hown hK hP hD hS 0 rfl rfl 11 (by decide) k114 (fun _ h9 => h9) rfl (by decide +kernel) rfl rfl (Nat.le_of_ble_eq_true rfl) dX3_set_19 (fun H locs hP hD hS => ?_)
    have hP : va_P D vwCl (wM K a (pM_re s 5)) H := hP
    have hD : va_D A (wM K a (pM_re s 5)) := hD
    refine lv_aload_n hx hb dX3_set_22 rfl (lv_at hl 0 rfl) ?_
    refine va_get (D := D) (ci := 2) (C := RX3) (T := TX3) (N := 21) hx hb hts hinX3 hown hK hP 0 rfl rfl 11 (by decide) k114 (fun _ h9 => h9) rfl dX3_set_23 ?_
    refine lv_if_ne (tgt := 74) hx hb dX3_set_26 (by decide) (fun c1 => ?_) (fun c1 => absurd (show (5 : Int32) = (0 : Int32) from c1) (by decide))
    refine lv_aload_n hx hb dX3_set_74 rfl (lv_at hl 0 rfl) ?_
    refine va_get (D := D) (ci := 2) (C := RX3) (T := TX3) (N := 21) hx hb hts hinX3 hown hK hP 0 rfl rfl 11 (by decide) k114 (fun _ h9 => h9) rfl dX3_set_75 ?_
    refine lv_if_le (tgt := 86) hx hb dX3_set_78 (by decide) (fun c2 => absurd (show (5 : Int32) ≤ (0 : Int32) from c2) (by decide)) (fun c2 => ?_)
    refine lv_aload_n hx hb dX3_set_81 rfl (lv_at hl 0 rfl) ?_
    refine va_get (D := D) (ci := 2) (C := RX3) (T := TX3) (N := 21) hx hb hts hinX3 hown hK hP 0 rfl rfl 11 (by decide) k114 (fun _ h9 => h9) rfl dX3_set_82 ?_
    exact rt_I hx hb hr hlk hK hP hD hS (pr_of (Eq.trans (if_pos c_2) (rfl))) dX3_set_85
  · refine lv_iload_n hx hb dX3_set_5 rfl (lv_at hl 2 rfl) ?_
    refine lv_iconst (v := 5) hx hb dX3_set_6 (by decide) ?_
    refine lv_icmp_le (tgt := 14) hx hb dX3_set_7 (by decide) (fun c_7 => ?_) (fun c_7 => ?_)
    · refine lv_aload_n hx hb dX3_set_14 rfl (lv_at hl 0 rfl) ?_
      refine lv_iload_n hx hb dX3_set_15 rfl (lv_at hl 1 rfl) ?_
      refine cl_I (c_X3_lack l D K a _ _ ) ⟨hx, hb, hml, hown, hts⟩ (cwV 1 hts gX3_set_X3_lack rfl rfl rfl (by decide +kernel) ⟨Nat.le_of_ble_eq_true rfl, Nat.le_of_ble_eq_true rfl⟩) hK hP hD hS hA rfl rfl rfl rfl hl.1 rfl (Nat.le_of_ble_eq_true rfl) (Nat.zero_le _) (Nat.zero_le _) dX3_set_16 (fun H locs hP hD hS => ?_)
      refine va_put (D := D) (ci := 2) (ty := .int) (C := RX3) (T := TX3) (N := 21) hx hb hts hinX3 tyX3 tyX3_ok nmX3 hown hK hP hD hS 0 rfl rfl 11 (by decide) k114 (fun _ h9 => h9) rfl (by decide +kernel) rfl rfl (Nat.le_of_ble_eq_true rfl) dX3_set_19 (fun H locs hP hD hS => ?_)
      have hP : va_P D vwCl (wM K a (pM_re s (f_X3_lack s t))) H := hP
      have hD : va_D A (wM K a (pM_re s (f_X3_lack s t))) := hD
      refine lv_aload_n hx hb dX3_set_22 rfl (lv_at hl 0 rfl) ?_
      refine va_get (D := D) (ci := 2) (C := RX3) (T := TX3) (N := 21) hx hb hts hinX3 hown hK hP 0 rfl rfl 11 (by decide) k114 (fun _ h9 => h9) rfl dX3_set_23 ?_
      refine lv_if_ne (tgt := 74) hx hb dX3_set_26 (by decide) (fun c_26 => ?_) (fun c_26 => ?_)
      · refine lv_aload_n hx hb dX3_set_74 rfl (lv_at hl 0 rfl) ?_
        refine va_get (D := D) (ci := 2) (C := RX3) (T := TX3) (N := 21) hx hb hts hinX3 hown hK hP 0 rfl rfl 11 (by decide) k114 (fun _ h9 => h9) rfl dX3_set_75 ?_
        refine lv_if_le (tgt := 86) hx hb dX3_set_78 (by decide) (fun c_78 => ?_) (fun c_78 => ?_)
        · refine lv_iload_n hx hb dX3_set_86 rfl (lv_at hl 2 rfl) ?_
          by_cases c_87_0 : k = 0
          · refine lv_tableIn (tgt := 120) (off := 33) hx hb dX3_set_87 (by rw [c_87_0]; decide) (by rw [c_87_0]; decide) (by rw [c_87_0]; rfl) (by decide) ?_
            refine lv_aload_n hx hb dX3_set_120 rfl (lv_at hl 0 rfl) ?_
            refine va_get (D := D) (ci := 2) (C := RX3) (T := TX3) (N := 21) hx hb hts hinX3 hown hK hP 0 rfl rfl 1 (by decide) k13 (fun _ h9 => h9) rfl dX3_set_121 ?_
            refine lv_iload_n hx hb dX3_set_124 rfl (lv_at hl 1 rfl) ?_
            refine lv_lload_n hx hb dX3_set_125 rfl (lv_at hl 3 rfl) ?_
            refine va_last hx hb hK hP hD hS 2 1 rfl rfl (hm_lack c_78) dX3_set_126 (fun H locs hP hD hS => ?_)
            have hP : va_P D vwCl (wM K a (pM_L (pM_re s (f_X3_lack s t)) (vp_updL (gM_L s) t.toNatClampNeg b))) H := hP
            have hD : va_D A (wM K a (pM_L (pM_re s (f_X3_lack s t)) (vp_updL (gM_L s) t.toNatClampNeg b))) := hD
            refine lv_goto (tgt := 179) hx hb dX3_set_127 (by decide) ?_
            refine lv_iconst (v := 0) hx hb dX3_set_179 (by decide) ?_
            exact rt_I hx hb hr hlk hK hP hD hS (pr_of (Eq.trans (if_neg c_2) (Eq.trans (if_pos c_7) (Eq.trans (if_neg c_26) (Eq.trans (if_pos c_78) (Eq.trans (if_pos c_87_0) (rfl))))))) dX3_set_180
          by_cases c_87_1 : k = 1
          · refine lv_tableIn (tgt := 130) (off := 43) hx hb dX3_set_87 (by rw [c_87_1]; decide) (by rw [c_87_1]; decide) (by rw [c_87_1]; rfl) (by decide) ?_
            refine lv_aload_n hx hb dX3_set_130 rfl (lv_at hl 0 rfl) ?_
            refine va_get (D := D) (ci := 2) (C := RX3) (T := TX3) (N := 21) hx hb hts hinX3 hown hK hP 0 rfl rfl 2 (by decide) k17 (fun _ h9 => h9) rfl dX3_set_131 ?_
            refine lv_iload_n hx hb dX3_set_134 rfl (lv_at hl 1 rfl) ?_
            refine lv_lload_n hx hb dX3_set_135 rfl (lv_at hl 3 rfl) ?_
            refine lv_l2i hx hb dX3_set_136 rfl ?_
            refine va_iast hx hb hK hP hD hS 3 0 rfl rfl (hm_lack c_78) dX3_set_137 (fun H locs hP hD hS => ?_)
            have hP : va_P D vwCl (wM K a (pM_P (pM_re s (f_X3_lack s t)) (upd (gM_P s) t.toNatClampNeg (Int64.toInt32 b)))) H := hP
            have hD : va_D A (wM K a (pM_P (pM_re s (f_X3_lack s t)) (upd (gM_P s) t.toNatClampNeg (Int64.toInt32 b)))) := hD
            refine lv_goto (tgt := 179) hx hb dX3_set_138 (by decide) ?_
            refine lv_iconst (v := 0) hx hb dX3_set_179 (by decide) ?_
            exact rt_I hx hb hr hlk hK hP hD hS (pr_of (Eq.trans (if_neg c_2) (Eq.trans (if_pos c_7) (Eq.trans (if_neg c_26) (Eq.trans (if_pos c_78) (Eq.trans (if_neg c_87_0) (Eq.trans (if_pos c_87_1) (rfl)))))))) dX3_set_180
          by_cases c_87_2 : k = 2
          · refine lv_tableIn (tgt := 141) (off := 54) hx hb dX3_set_87 (by rw [c_87_2]; decide) (by rw [c_87_2]; decide) (by rw [c_87_2]; rfl) (by decide) ?_
            refine lv_aload_n hx hb dX3_set_141 rfl (lv_at hl 0 rfl) ?_
            refine va_get (D := D) (ci := 2) (C := RX3) (T := TX3) (N := 21) hx hb hts hinX3 hown hK hP 0 rfl rfl 3 (by decide) k21 (fun _ h9 => h9) rfl dX3_set_142 ?_
            refine lv_iload_n hx hb dX3_set_145 rfl (lv_at hl 1 rfl) ?_
            refine lv_lload_n hx hb dX3_set_146 rfl (lv_at hl 3 rfl) ?_
            refine lv_l2i hx hb dX3_set_147 rfl ?_
            refine va_iast hx hb hK hP hD hS 4 0 rfl rfl (hm_lack c_78) dX3_set_148 (fun H locs hP hD hS => ?_)
            have hP : va_P D vwCl (wM K a (pM_K (pM_re s (f_X3_lack s t)) (upd (gM_K s) t.toNatClampNeg (Int64.toInt32 b)))) H := hP
            have hD : va_D A (wM K a (pM_K (pM_re s (f_X3_lack s t)) (upd (gM_K s) t.toNatClampNeg (Int64.toInt32 b)))) := hD
            refine lv_goto (tgt := 179) hx hb dX3_set_149 (by decide) ?_
            refine lv_iconst (v := 0) hx hb dX3_set_179 (by decide) ?_
            exact rt_I hx hb hr hlk hK hP hD hS (pr_of (Eq.trans (if_neg c_2) (Eq.trans (if_pos c_7) (Eq.trans (if_neg c_26) (Eq.trans (if_pos c_78) (Eq.trans (if_neg c_87_0) (Eq.trans (if_neg c_87_1) (Eq.trans (if_pos c_87_2) (rfl))))))))) dX3_set_180
          by_cases c_87_3 : k = 3
          · refine lv_tableIn (tgt := 152) (off := 65) hx hb dX3_set_87 (by rw [c_87_3]; decide) (by rw [c_87_3]; decide) (by rw [c_87_3]; rfl) (by decide) ?_
            refine lv_aload_n hx hb dX3_set_152 rfl (lv_at hl 0 rfl) ?_
            refine va_get (D := D) (ci := 2) (C := RX3) (T := TX3) (N := 21) hx hb hts hinX3 hown hK hP 0 rfl rfl 4 (by decide) k24 (fun _ h9 => h9) rfl dX3_set_153 ?_
            refine lv_iload_n hx hb dX3_set_156 rfl (lv_at hl 1 rfl) ?_
            refine lv_lload_n hx hb dX3_set_157 rfl (lv_at hl 3 rfl) ?_
            refine va_last hx hb hK hP hD hS 5 1 rfl rfl (hm_lack c_78) dX3_set_158 (fun H locs hP hD hS => ?_)
            have hP : va_P D vwCl (wM K a (pM_T (pM_re s (f_X3_lack s t)) (vp_updL (gM_T s) t.toNatClampNeg b))) H := hP
            have hD : va_D A (wM K a (pM_T (pM_re s (f_X3_lack s t)) (vp_updL (gM_T s) t.toNatClampNeg b))) := hD
            refine lv_goto (tgt := 179) hx hb dX3_set_159 (by decide) ?_
            refine lv_iconst (v := 0) hx hb dX3_set_179 (by decide) ?_
            exact rt_I hx hb hr hlk hK hP hD hS (pr_of (Eq.trans (if_neg c_2) (Eq.trans (if_pos c_7) (Eq.trans (if_neg c_26) (Eq.trans (if_pos c_78) (Eq.trans (if_neg c_87_0) (Eq.trans (if_neg c_87_1) (Eq.trans (if_neg c_87_2) (Eq.trans (if_pos c_87_3) (rfl)))))))))) dX3_set_180
          by_cases c_87_4 : k = 4
          · refine lv_tableIn (tgt := 162) (off := 75) hx hb dX3_set_87 (by rw [c_87_4]; decide) (by rw [c_87_4]; decide) (by rw [c_87_4]; rfl) (by decide) ?_
            refine lv_aload_n hx hb dX3_set_162 rfl (lv_at hl 0 rfl) ?_
            refine va_get (D := D) (ci := 2) (C := RX3) (T := TX3) (N := 21) hx hb hts hinX3 hown hK hP 0 rfl rfl 5 (by decide) k27 (fun _ h9 => h9) rfl dX3_set_163 ?_
            refine lv_iload_n hx hb dX3_set_166 rfl (lv_at hl 1 rfl) ?_
            refine lv_lload_n hx hb dX3_set_167 rfl (lv_at hl 3 rfl) ?_
            refine va_last hx hb hK hP hD hS 6 1 rfl rfl (hm_lack c_78) dX3_set_168 (fun H locs hP hD hS => ?_)
            have hP : va_P D vwCl (wM K a (pM_LO (pM_re s (f_X3_lack s t)) (vp_updL (gM_LO s) t.toNatClampNeg b))) H := hP
            have hD : va_D A (wM K a (pM_LO (pM_re s (f_X3_lack s t)) (vp_updL (gM_LO s) t.toNatClampNeg b))) := hD
            refine lv_goto (tgt := 179) hx hb dX3_set_169 (by decide) ?_
            refine lv_iconst (v := 0) hx hb dX3_set_179 (by decide) ?_
            exact rt_I hx hb hr hlk hK hP hD hS (pr_of (Eq.trans (if_neg c_2) (Eq.trans (if_pos c_7) (Eq.trans (if_neg c_26) (Eq.trans (if_pos c_78) (Eq.trans (if_neg c_87_0) (Eq.trans (if_neg c_87_1) (Eq.trans (if_neg c_87_2) (Eq.trans (if_neg c_87_3) (Eq.trans (if_pos c_87_4) (rfl))))))))))) dX3_set_180
          have n_87_0 := sw_i c_87_0 (k := 0) (by decide)
          have n_87_1 := sw_i c_87_1 (k := 1) (by decide)
          have n_87_2 := sw_i c_87_2 (k := 2) (by decide)
          have n_87_3 := sw_i c_87_3 (k := 3) (by decide)
          have n_87_4 := sw_i c_87_4 (k := 4) (by decide)
          refine lv_tableOut (tgt := 172) hx hb dX3_set_87 (by omega) (by decide) ?_
          refine lv_aload_n hx hb dX3_set_172 rfl (lv_at hl 0 rfl) ?_
          refine va_get (D := D) (ci := 2) (C := RX3) (T := TX3) (N := 21) hx hb hts hinX3 hown hK hP 0 rfl rfl 6 (by decide) k30 (fun _ h9 => h9) rfl dX3_set_173 ?_
          refine lv_iload_n hx hb dX3_set_176 rfl (lv_at hl 1 rfl) ?_
          refine lv_lload_n hx hb dX3_set_177 rfl (lv_at hl 3 rfl) ?_
          refine va_last hx hb hK hP hD hS 7 1 rfl rfl (hm_lack c_78) dX3_set_178 (fun H locs hP hD hS => ?_)
          have hP : va_P D vwCl (wM K a (pM_HI (pM_re s (f_X3_lack s t)) (vp_updL (gM_HI s) t.toNatClampNeg b))) H := hP
          have hD : va_D A (wM K a (pM_HI (pM_re s (f_X3_lack s t)) (vp_updL (gM_HI s) t.toNatClampNeg b))) := hD
          refine lv_iconst (v := 0) hx hb dX3_set_179 (by decide) ?_
          exact rt_I hx hb hr hlk hK hP hD hS (pr_of (Eq.trans (if_neg c_2) (Eq.trans (if_pos c_7) (Eq.trans (if_neg c_26) (Eq.trans (if_pos c_78) (Eq.trans (if_neg c_87_0) (Eq.trans (if_neg c_87_1) (Eq.trans (if_neg c_87_2) (Eq.trans (if_neg c_87_3) (Eq.trans (if_neg c_87_4) (rfl))))))))))) dX3_set_180
        · refine lv_aload_n hx hb dX3_set_81 rfl (lv_at hl 0 rfl) ?_
          refine va_get (D := D) (ci := 2) (C := RX3) (T := TX3) (N := 21) hx hb hts hinX3 hown hK hP 0 rfl rfl 11 (by decide) k114 (fun _ h9 => h9) rfl dX3_set_82 ?_
          exact rt_I hx hb hr hlk hK hP hD hS (pr_of (Eq.trans (if_neg c_2) (Eq.trans (if_pos c_7) (Eq.trans (if_neg c_26) (Eq.trans (if_neg c_78) (rfl)))))) dX3_set_85
      · refine lv_iload_n hx hb dX3_set_29 rfl (lv_at hl 2 rfl) ?_
        refine cl_Pi (c_X3_isReal l _) ⟨hx, hb, hml, hown, hts⟩ (va_cwS 1 hts gX3_set_X3_isReal rfl rfl rfl (by decide +kernel) ⟨Nat.le_of_ble_eq_true rfl, Nat.le_of_ble_eq_true rfl⟩) rfl hl.1 rfl (Nat.le_of_ble_eq_true rfl) (Nat.zero_le _) (Nat.zero_le _) dX3_set_30 ?_
        refine lv_if_eq (tgt := 74) hx hb dX3_set_33 (by decide) (fun c_33 => ?_) (fun c_33 => ?_)
        · refine lv_aload_n hx hb dX3_set_74 rfl (lv_at hl 0 rfl) ?_
          refine va_get (D := D) (ci := 2) (C := RX3) (T := TX3) (N := 21) hx hb hts hinX3 hown hK hP 0 rfl rfl 11 (by decide) k114 (fun _ h9 => h9) rfl dX3_set_75 ?_
          refine lv_if_le (tgt := 86) hx hb dX3_set_78 (by decide) (fun c_78 => ?_) (fun c_78 => ?_)
          · refine lv_iload_n hx hb dX3_set_86 rfl (lv_at hl 2 rfl) ?_
            by_cases c_87_0 : k = 0
            · refine lv_tableIn (tgt := 120) (off := 33) hx hb dX3_set_87 (by rw [c_87_0]; decide) (by rw [c_87_0]; decide) (by rw [c_87_0]; rfl) (by decide) ?_
              refine lv_aload_n hx hb dX3_set_120 rfl (lv_at hl 0 rfl) ?_
              refine va_get (D := D) (ci := 2) (C := RX3) (T := TX3) (N := 21) hx hb hts hinX3 hown hK hP 0 rfl rfl 1 (by decide) k13 (fun _ h9 => h9) rfl dX3_set_121 ?_
              refine lv_iload_n hx hb dX3_set_124 rfl (lv_at hl 1 rfl) ?_
              refine lv_lload_n hx hb dX3_set_125 rfl (lv_at hl 3 rfl) ?_
              refine va_last hx hb hK hP hD hS 2 1 rfl rfl (hm_lack c_78) dX3_set_126 (fun H locs hP hD hS => ?_)
              have hP : va_P D vwCl (wM K a (pM_L (pM_re s (f_X3_lack s t)) (vp_updL (gM_L s) t.toNatClampNeg b))) H := hP
              have hD : va_D A (wM K a (pM_L (pM_re s (f_X3_lack s t)) (vp_updL (gM_L s) t.toNatClampNeg b))) := hD
              refine lv_goto (tgt := 179) hx hb dX3_set_127 (by decide) ?_
              refine lv_iconst (v := 0) hx hb dX3_set_179 (by decide) ?_
              exact rt_I hx hb hr hlk hK hP hD hS (pr_of (Eq.trans (if_neg c_2) (Eq.trans (if_pos c_7) (Eq.trans (if_pos c_26) (Eq.trans (if_pos c_33) (Eq.trans (if_pos c_78) (Eq.trans (if_pos c_87_0) (rfl)))))))) dX3_set_180
            by_cases c_87_1 : k = 1
            · refine lv_tableIn (tgt := 130) (off := 43) hx hb dX3_set_87 (by rw [c_87_1]; decide) (by rw [c_87_1]; decide) (by rw [c_87_1]; rfl) (by decide) ?_
              refine lv_aload_n hx hb dX3_set_130 rfl (lv_at hl 0 rfl) ?_
              refine va_get (D := D) (ci := 2) (C := RX3) (T := TX3) (N := 21) hx hb hts hinX3 hown hK hP 0 rfl rfl 2 (by decide) k17 (fun _ h9 => h9) rfl dX3_set_131 ?_
              refine lv_iload_n hx hb dX3_set_134 rfl (lv_at hl 1 rfl) ?_
              refine lv_lload_n hx hb dX3_set_135 rfl (lv_at hl 3 rfl) ?_
              refine lv_l2i hx hb dX3_set_136 rfl ?_
              refine va_iast hx hb hK hP hD hS 3 0 rfl rfl (hm_lack c_78) dX3_set_137 (fun H locs hP hD hS => ?_)
              have hP : va_P D vwCl (wM K a (pM_P (pM_re s (f_X3_lack s t)) (upd (gM_P s) t.toNatClampNeg (Int64.toInt32 b)))) H := hP
              have hD : va_D A (wM K a (pM_P (pM_re s (f_X3_lack s t)) (upd (gM_P s) t.toNatClampNeg (Int64.toInt32 b)))) := hD
              refine lv_goto (tgt := 179) hx hb dX3_set_138 (by decide) ?_
              refine lv_iconst (v := 0) hx hb dX3_set_179 (by decide) ?_
              exact rt_I hx hb hr hlk hK hP hD hS (pr_of (Eq.trans (if_neg c_2) (Eq.trans (if_pos c_7) (Eq.trans (if_pos c_26) (Eq.trans (if_pos c_33) (Eq.trans (if_pos c_78) (Eq.trans (if_neg c_87_0) (Eq.trans (if_pos c_87_1) (rfl))))))))) dX3_set_180
            by_cases c_87_2 : k = 2
            · refine lv_tableIn (tgt := 141) (off := 54) hx hb dX3_set_87 (by rw [c_87_2]; decide) (by rw [c_87_2]; decide) (by rw [c_87_2]; rfl) (by decide) ?_
              refine lv_aload_n hx hb dX3_set_141 rfl (lv_at hl 0 rfl) ?_
              refine va_get (D := D) (ci := 2) (C := RX3) (T := TX3) (N := 21) hx hb hts hinX3 hown hK hP 0 rfl rfl 3 (by decide) k21 (fun _ h9 => h9) rfl dX3_set_142 ?_
              refine lv_iload_n hx hb dX3_set_145 rfl (lv_at hl 1 rfl) ?_
              refine lv_lload_n hx hb dX3_set_146 rfl (lv_at hl 3 rfl) ?_
              refine lv_l2i hx hb dX3_set_147 rfl ?_
              refine va_iast hx hb hK hP hD hS 4 0 rfl rfl (hm_lack c_78) dX3_set_148 (fun H locs hP hD hS => ?_)
              have hP : va_P D vwCl (wM K a (pM_K (pM_re s (f_X3_lack s t)) (upd (gM_K s) t.toNatClampNeg (Int64.toInt32 b)))) H := hP
              have hD : va_D A (wM K a (pM_K (pM_re s (f_X3_lack s t)) (upd (gM_K s) t.toNatClampNeg (Int64.toInt32 b)))) := hD
              refine lv_goto (tgt := 179) hx hb dX3_set_149 (by decide) ?_
              refine lv_iconst (v := 0) hx hb dX3_set_179 (by decide) ?_
              exact rt_I hx hb hr hlk hK hP hD hS (pr_of (Eq.trans (if_neg c_2) (Eq.trans (if_pos c_7) (Eq.trans (if_pos c_26) (Eq.trans (if_pos c_33) (Eq.trans (if_pos c_78) (Eq.trans (if_neg c_87_0) (Eq.trans (if_neg c_87_1) (Eq.trans (if_pos c_87_2) (rfl)))))))))) dX3_set_180
            by_cases c_87_3 : k = 3
            · refine lv_tableIn (tgt := 152) (off := 65) hx hb dX3_set_87 (by rw [c_87_3]; decide) (by rw [c_87_3]; decide) (by rw [c_87_3]; rfl) (by decide) ?_
              refine lv_aload_n hx hb dX3_set_152 rfl (lv_at hl 0 rfl) ?_
              refine va_get (D := D) (ci := 2) (C := RX3) (T := TX3) (N := 21) hx hb hts hinX3 hown hK hP 0 rfl rfl 4 (by decide) k24 (fun _ h9 => h9) rfl dX3_set_153 ?_
              refine lv_iload_n hx hb dX3_set_156 rfl (lv_at hl 1 rfl) ?_
              refine lv_lload_n hx hb dX3_set_157 rfl (lv_at hl 3 rfl) ?_
              refine va_last hx hb hK hP hD hS 5 1 rfl rfl (hm_lack c_78) dX3_set_158 (fun H locs hP hD hS => ?_)
              have hP : va_P D vwCl (wM K a (pM_T (pM_re s (f_X3_lack s t)) (vp_updL (gM_T s) t.toNatClampNeg b))) H := hP
              have hD : va_D A (wM K a (pM_T (pM_re s (f_X3_lack s t)) (vp_updL (gM_T s) t.toNatClampNeg b))) := hD
              refine lv_goto (tgt := 179) hx hb dX3_set_159 (by decide) ?_
              refine lv_iconst (v := 0) hx hb dX3_set_179 (by decide) ?_
              exact rt_I hx hb hr hlk hK hP hD hS (pr_of (Eq.trans (if_neg c_2) (Eq.trans (if_pos c_7) (Eq.trans (if_pos c_26) (Eq.trans (if_pos c_33) (Eq.trans (if_pos c_78) (Eq.trans (if_neg c_87_0) (Eq.trans (if_neg c_87_1) (Eq.trans (if_neg c_87_2) (Eq.trans (if_pos c_87_3) (rfl))))))))))) dX3_set_180
            by_cases c_87_4 : k = 4
            · refine lv_tableIn (tgt := 162) (off := 75) hx hb dX3_set_87 (by rw [c_87_4]; decide) (by rw [c_87_4]; decide) (by rw [c_87_4]; rfl) (by decide) ?_
              refine lv_aload_n hx hb dX3_set_162 rfl (lv_at hl 0 rfl) ?_
              refine va_get (D := D) (ci := 2) (C := RX3) (T := TX3) (N := 21) hx hb hts hinX3 hown hK hP 0 rfl rfl 5 (by decide) k27 (fun _ h9 => h9) rfl dX3_set_163 ?_
              refine lv_iload_n hx hb dX3_set_166 rfl (lv_at hl 1 rfl) ?_
              refine lv_lload_n hx hb dX3_set_167 rfl (lv_at hl 3 rfl) ?_
              refine va_last hx hb hK hP hD hS 6 1 rfl rfl (hm_lack c_78) dX3_set_168 (fun H locs hP hD hS => ?_)
              have hP : va_P D vwCl (wM K a (pM_LO (pM_re s (f_X3_lack s t)) (vp_updL (gM_LO s) t.toNatClampNeg b))) H := hP
              have hD : va_D A (wM K a (pM_LO (pM_re s (f_X3_lack s t)) (vp_updL (gM_LO s) t.toNatClampNeg b))) := hD
              refine lv_goto (tgt := 179) hx hb dX3_set_169 (by decide) ?_
              refine lv_iconst (v := 0) hx hb dX3_set_179 (by decide) ?_
              exact rt_I hx hb hr hlk hK hP hD hS (pr_of (Eq.trans (if_neg c_2) (Eq.trans (if_pos c_7) (Eq.trans (if_pos c_26) (Eq.trans (if_pos c_33) (Eq.trans (if_pos c_78) (Eq.trans (if_neg c_87_0) (Eq.trans (if_neg c_87_1) (Eq.trans (if_neg c_87_2) (Eq.trans (if_neg c_87_3) (Eq.trans (if_pos c_87_4) (rfl)))))))))))) dX3_set_180
            have n_87_0 := sw_i c_87_0 (k := 0) (by decide)
            have n_87_1 := sw_i c_87_1 (k := 1) (by decide)
            have n_87_2 := sw_i c_87_2 (k := 2) (by decide)
            have n_87_3 := sw_i c_87_3 (k := 3) (by decide)
            have n_87_4 := sw_i c_87_4 (k := 4) (by decide)
            refine lv_tableOut (tgt := 172) hx hb dX3_set_87 (by omega) (by decide) ?_
            refine lv_aload_n hx hb dX3_set_172 rfl (lv_at hl 0 rfl) ?_
            refine va_get (D := D) (ci := 2) (C := RX3) (T := TX3) (N := 21) hx hb hts hinX3 hown hK hP 0 rfl rfl 6 (by decide) k30 (fun _ h9 => h9) rfl dX3_set_173 ?_
            refine lv_iload_n hx hb dX3_set_176 rfl (lv_at hl 1 rfl) ?_
            refine lv_lload_n hx hb dX3_set_177 rfl (lv_at hl 3 rfl) ?_
            refine va_last hx hb hK hP hD hS 7 1 rfl rfl (hm_lack c_78) dX3_set_178 (fun H locs hP hD hS => ?_)
            have hP : va_P D vwCl (wM K a (pM_HI (pM_re s (f_X3_lack s t)) (vp_updL (gM_HI s) t.toNatClampNeg b))) H := hP
            have hD : va_D A (wM K a (pM_HI (pM_re s (f_X3_lack s t)) (vp_updL (gM_HI s) t.toNatClampNeg b))) := hD
            refine lv_iconst (v := 0) hx hb dX3_set_179 (by decide) ?_
            exact rt_I hx hb hr hlk hK hP hD hS (pr_of (Eq.trans (if_neg c_2) (Eq.trans (if_pos c_7) (Eq.trans (if_pos c_26) (Eq.trans (if_pos c_33) (Eq.trans (if_pos c_78) (Eq.trans (if_neg c_87_0) (Eq.trans (if_neg c_87_1) (Eq.trans (if_neg c_87_2) (Eq.trans (if_neg c_87_3) (Eq.trans (if_neg c_87_4) (rfl)))))))))))) dX3_set_180
          · refine lv_aload_n hx hb dX3_set_81 rfl (lv_at hl 0 rfl) ?_
            refine va_get (D := D) (ci := 2) (C := RX3) (T := TX3) (N := 21) hx hb hts hinX3 hown hK hP 0 rfl rfl 11 (by decide) k114 (fun _ h9 => h9) rfl dX3_set_82 ?_
            exact rt_I hx hb hr hlk hK hP hD hS (pr_of (Eq.trans (if_neg c_2) (Eq.trans (if_pos c_7) (Eq.trans (if_pos c_26) (Eq.trans (if_pos c_33) (Eq.trans (if_neg c_78) (rfl))))))) dX3_set_85
        · refine lv_iload_n hx hb dX3_set_36 rfl (lv_at hl 2 rfl) ?_
          refine lv_iconst (v := 1) hx hb dX3_set_37 (by decide) ?_
          refine lv_icmp_ne (tgt := 49) hx hb dX3_set_38 (by decide) (fun c_38 => ?_) (fun c_38 => ?_)
          · refine lv_lload_n hx hb dX3_set_49 rfl (lv_at hl 3 rfl) ?_
            refine lv_iload_n hx hb dX3_set_50 rfl (lv_at hl 2 rfl) ?_
            refine lv_iconst (v := 1) hx hb dX3_set_51 (by decide) ?_
            refine lv_icmp_ne (tgt := 60) hx hb dX3_set_52 (by decide) (fun c3 => ?_) (fun c3 => absurd c3 c_38)
            refine lv_bipush (v := 52) hx hb dX3_set_60 (by decide) ?_
            refine cl_Pi (c_X3_isNumber l _ _) ⟨hx, hb, hml, hown, hts⟩ (va_cwS 2 hts gX3_set_X3_isNumber rfl rfl rfl (by decide +kernel) ⟨Nat.le_of_ble_eq_true rfl, Nat.le_of_ble_eq_true rfl⟩) rfl hl.1 rfl (Nat.le_of_ble_eq_true rfl) (Nat.zero_le _) (Nat.zero_le _) dX3_set_62 ?_
            refine lv_if_ne (tgt := 74) hx hb dX3_set_65 (by decide) (fun c_65 => ?_) (fun c_65 => ?_)
            · refine lv_aload_n hx hb dX3_set_74 rfl (lv_at hl 0 rfl) ?_
              refine va_get (D := D) (ci := 2) (C := RX3) (T := TX3) (N := 21) hx hb hts hinX3 hown hK hP 0 rfl rfl 11 (by decide) k114 (fun _ h9 => h9) rfl dX3_set_75 ?_
              refine lv_if_le (tgt := 86) hx hb dX3_set_78 (by decide) (fun c_78 => ?_) (fun c_78 => ?_)
              · refine lv_iload_n hx hb dX3_set_86 rfl (lv_at hl 2 rfl) ?_
                by_cases c_87_0 : k = 0
                · refine lv_tableIn (tgt := 120) (off := 33) hx hb dX3_set_87 (by rw [c_87_0]; decide) (by rw [c_87_0]; decide) (by rw [c_87_0]; rfl) (by decide) ?_
                  refine lv_aload_n hx hb dX3_set_120 rfl (lv_at hl 0 rfl) ?_
                  refine va_get (D := D) (ci := 2) (C := RX3) (T := TX3) (N := 21) hx hb hts hinX3 hown hK hP 0 rfl rfl 1 (by decide) k13 (fun _ h9 => h9) rfl dX3_set_121 ?_
                  refine lv_iload_n hx hb dX3_set_124 rfl (lv_at hl 1 rfl) ?_
                  refine lv_lload_n hx hb dX3_set_125 rfl (lv_at hl 3 rfl) ?_
                  refine va_last hx hb hK hP hD hS 2 1 rfl rfl (hm_lack c_78) dX3_set_126 (fun H locs hP hD hS => ?_)
                  have hP : va_P D vwCl (wM K a (pM_L (pM_re s (f_X3_lack s t)) (vp_updL (gM_L s) t.toNatClampNeg b))) H := hP
                  have hD : va_D A (wM K a (pM_L (pM_re s (f_X3_lack s t)) (vp_updL (gM_L s) t.toNatClampNeg b))) := hD
                  refine lv_goto (tgt := 179) hx hb dX3_set_127 (by decide) ?_
                  refine lv_iconst (v := 0) hx hb dX3_set_179 (by decide) ?_
                  exact rt_I hx hb hr hlk hK hP hD hS (pr_of (Eq.trans (if_neg c_2) (Eq.trans (if_pos c_7) (Eq.trans (if_pos c_26) (Eq.trans (if_neg c_33) (Eq.trans (if_neg c_38) (Eq.trans (if_neg c_65) (Eq.trans (if_pos c_78) (Eq.trans (if_pos c_87_0) (rfl)))))))))) dX3_set_180
                by_cases c_87_1 : k = 1
                · refine lv_tableIn (tgt := 130) (off := 43) hx hb dX3_set_87 (by rw [c_87_1]; decide) (by rw [c_87_1]; decide) (by rw [c_87_1]; rfl) (by decide) ?_
                  refine lv_aload_n hx hb dX3_set_130 rfl (lv_at hl 0 rfl) ?_
                  refine va_get (D := D) (ci := 2) (C := RX3) (T := TX3) (N := 21) hx hb hts hinX3 hown hK hP 0 rfl rfl 2 (by decide) k17 (fun _ h9 => h9) rfl dX3_set_131 ?_
                  refine lv_iload_n hx hb dX3_set_134 rfl (lv_at hl 1 rfl) ?_
                  refine lv_lload_n hx hb dX3_set_135 rfl (lv_at hl 3 rfl) ?_
                  refine lv_l2i hx hb dX3_set_136 rfl ?_
                  refine va_iast hx hb hK hP hD hS 3 0 rfl rfl (hm_lack c_78) dX3_set_137 (fun H locs hP hD hS => ?_)
                  have hP : va_P D vwCl (wM K a (pM_P (pM_re s (f_X3_lack s t)) (upd (gM_P s) t.toNatClampNeg (Int64.toInt32 b)))) H := hP
                  have hD : va_D A (wM K a (pM_P (pM_re s (f_X3_lack s t)) (upd (gM_P s) t.toNatClampNeg (Int64.toInt32 b)))) := hD
                  refine lv_goto (tgt := 179) hx hb dX3_set_138 (by decide) ?_
                  refine lv_iconst (v := 0) hx hb dX3_set_179 (by decide) ?_
                  exact rt_I hx hb hr hlk hK hP hD hS (pr_of (Eq.trans (if_neg c_2) (Eq.trans (if_pos c_7) (Eq.trans (if_pos c_26) (Eq.trans (if_neg c_33) (Eq.trans (if_neg c_38) (Eq.trans (if_neg c_65) (Eq.trans (if_pos c_78) (Eq.trans (if_neg c_87_0) (Eq.trans (if_pos c_87_1) (rfl))))))))))) dX3_set_180
                by_cases c_87_2 : k = 2
                · refine lv_tableIn (tgt := 141) (off := 54) hx hb dX3_set_87 (by rw [c_87_2]; decide) (by rw [c_87_2]; decide) (by rw [c_87_2]; rfl) (by decide) ?_
                  refine lv_aload_n hx hb dX3_set_141 rfl (lv_at hl 0 rfl) ?_
                  refine va_get (D := D) (ci := 2) (C := RX3) (T := TX3) (N := 21) hx hb hts hinX3 hown hK hP 0 rfl rfl 3 (by decide) k21 (fun _ h9 => h9) rfl dX3_set_142 ?_
                  refine lv_iload_n hx hb dX3_set_145 rfl (lv_at hl 1 rfl) ?_
                  refine lv_lload_n hx hb dX3_set_146 rfl (lv_at hl 3 rfl) ?_
                  refine lv_l2i hx hb dX3_set_147 rfl ?_
                  refine va_iast hx hb hK hP hD hS 4 0 rfl rfl (hm_lack c_78) dX3_set_148 (fun H locs hP hD hS => ?_)
                  have hP : va_P D vwCl (wM K a (pM_K (pM_re s (f_X3_lack s t)) (upd (gM_K s) t.toNatClampNeg (Int64.toInt32 b)))) H := hP
                  have hD : va_D A (wM K a (pM_K (pM_re s (f_X3_lack s t)) (upd (gM_K s) t.toNatClampNeg (Int64.toInt32 b)))) := hD
                  refine lv_goto (tgt := 179) hx hb dX3_set_149 (by decide) ?_
                  refine lv_iconst (v := 0) hx hb dX3_set_179 (by decide) ?_
                  exact rt_I hx hb hr hlk hK hP hD hS (pr_of (Eq.trans (if_neg c_2) (Eq.trans (if_pos c_7) (Eq.trans (if_pos c_26) (Eq.trans (if_neg c_33) (Eq.trans (if_neg c_38) (Eq.trans (if_neg c_65) (Eq.trans (if_pos c_78) (Eq.trans (if_neg c_87_0) (Eq.trans (if_neg c_87_1) (Eq.trans (if_pos c_87_2) (rfl)))))))))))) dX3_set_180
                by_cases c_87_3 : k = 3
                · refine lv_tableIn (tgt := 152) (off := 65) hx hb dX3_set_87 (by rw [c_87_3]; decide) (by rw [c_87_3]; decide) (by rw [c_87_3]; rfl) (by decide) ?_
                  refine lv_aload_n hx hb dX3_set_152 rfl (lv_at hl 0 rfl) ?_
                  refine va_get (D := D) (ci := 2) (C := RX3) (T := TX3) (N := 21) hx hb hts hinX3 hown hK hP 0 rfl rfl 4 (by decide) k24 (fun _ h9 => h9) rfl dX3_set_153 ?_
                  refine lv_iload_n hx hb dX3_set_156 rfl (lv_at hl 1 rfl) ?_
                  refine lv_lload_n hx hb dX3_set_157 rfl (lv_at hl 3 rfl) ?_
                  refine va_last hx hb hK hP hD hS 5 1 rfl rfl (hm_lack c_78) dX3_set_158 (fun H locs hP hD hS => ?_)
                  have hP : va_P D vwCl (wM K a (pM_T (pM_re s (f_X3_lack s t)) (vp_updL (gM_T s) t.toNatClampNeg b))) H := hP
                  have hD : va_D A (wM K a (pM_T (pM_re s (f_X3_lack s t)) (vp_updL (gM_T s) t.toNatClampNeg b))) := hD
                  refine lv_goto (tgt := 179) hx hb dX3_set_159 (by decide) ?_
                  refine lv_iconst (v := 0) hx hb dX3_set_179 (by decide) ?_
                  exact rt_I hx hb hr hlk hK hP hD hS (pr_of (Eq.trans (if_neg c_2) (Eq.trans (if_pos c_7) (Eq.trans (if_pos c_26) (Eq.trans (if_neg c_33) (Eq.trans (if_neg c_38) (Eq.trans (if_neg c_65) (Eq.trans (if_pos c_78) (Eq.trans (if_neg c_87_0) (Eq.trans (if_neg c_87_1) (Eq.trans (if_neg c_87_2) (Eq.trans (if_pos c_87_3) (rfl))))))))))))) dX3_set_180
                by_cases c_87_4 : k = 4
                · refine lv_tableIn (tgt := 162) (off := 75) hx hb dX3_set_87 (by rw [c_87_4]; decide) (by rw [c_87_4]; decide) (by rw [c_87_4]; rfl) (by decide) ?_
                  refine lv_aload_n hx hb dX3_set_162 rfl (lv_at hl 0 rfl) ?_
                  refine va_get (D := D) (ci := 2) (C := RX3) (T := TX3) (N := 21) hx hb hts hinX3 hown hK hP 0 rfl rfl 5 (by decide) k27 (fun _ h9 => h9) rfl dX3_set_163 ?_
                  refine lv_iload_n hx hb dX3_set_166 rfl (lv_at hl 1 rfl) ?_
                  refine lv_lload_n hx hb dX3_set_167 rfl (lv_at hl 3 rfl) ?_
                  refine va_last hx hb hK hP hD hS 6 1 rfl rfl (hm_lack c_78) dX3_set_168 (fun H locs hP hD hS => ?_)
                  have hP : va_P D vwCl (wM K a (pM_LO (pM_re s (f_X3_lack s t)) (vp_updL (gM_LO s) t.toNatClampNeg b))) H := hP
                  have hD : va_D A (wM K a (pM_LO (pM_re s (f_X3_lack s t)) (vp_updL (gM_LO s) t.toNatClampNeg b))) := hD
                  refine lv_goto (tgt := 179) hx hb dX3_set_169 (by decide) ?_
                  refine lv_iconst (v := 0) hx hb dX3_set_179 (by decide) ?_
                  exact rt_I hx hb hr hlk hK hP hD hS (pr_of (Eq.trans (if_neg c_2) (Eq.trans (if_pos c_7) (Eq.trans (if_pos c_26) (Eq.trans (if_neg c_33) (Eq.trans (if_neg c_38) (Eq.trans (if_neg c_65) (Eq.trans (if_pos c_78) (Eq.trans (if_neg c_87_0) (Eq.trans (if_neg c_87_1) (Eq.trans (if_neg c_87_2) (Eq.trans (if_neg c_87_3) (Eq.trans (if_pos c_87_4) (rfl)))))))))))))) dX3_set_180
                have n_87_0 := sw_i c_87_0 (k := 0) (by decide)
                have n_87_1 := sw_i c_87_1 (k := 1) (by decide)
                have n_87_2 := sw_i c_87_2 (k := 2) (by decide)
                have n_87_3 := sw_i c_87_3 (k := 3) (by decide)
                have n_87_4 := sw_i c_87_4 (k := 4) (by decide)
                refine lv_tableOut (tgt := 172) hx hb dX3_set_87 (by omega) (by decide) ?_
                refine lv_aload_n hx hb dX3_set_172 rfl (lv_at hl 0 rfl) ?_
                refine va_get (D := D) (ci := 2) (C := RX3) (T := TX3) (N := 21) hx hb hts hinX3 hown hK hP 0 rfl rfl 6 (by decide) k30 (fun _ h9 => h9) rfl dX3_set_173 ?_
                refine lv_iload_n hx hb dX3_set_176 rfl (lv_at hl 1 rfl) ?_
                refine lv_lload_n hx hb dX3_set_177 rfl (lv_at hl 3 rfl) ?_
                refine va_last hx hb hK hP hD hS 7 1 rfl rfl (hm_lack c_78) dX3_set_178 (fun H locs hP hD hS => ?_)
                have hP : va_P D vwCl (wM K a (pM_HI (pM_re s (f_X3_lack s t)) (vp_updL (gM_HI s) t.toNatClampNeg b))) H := hP
                have hD : va_D A (wM K a (pM_HI (pM_re s (f_X3_lack s t)) (vp_updL (gM_HI s) t.toNatClampNeg b))) := hD
                refine lv_iconst (v := 0) hx hb dX3_set_179 (by decide) ?_
                exact rt_I hx hb hr hlk hK hP hD hS (pr_of (Eq.trans (if_neg c_2) (Eq.trans (if_pos c_7) (Eq.trans (if_pos c_26) (Eq.trans (if_neg c_33) (Eq.trans (if_neg c_38) (Eq.trans (if_neg c_65) (Eq.trans (if_pos c_78) (Eq.trans (if_neg c_87_0) (Eq.trans (if_neg c_87_1) (Eq.trans (if_neg c_87_2) (Eq.trans (if_neg c_87_3) (Eq.trans (if_neg c_87_4) (rfl)))))))))))))) dX3_set_180
              · refine lv_aload_n hx hb dX3_set_81 rfl (lv_at hl 0 rfl) ?_
                refine va_get (D := D) (ci := 2) (C := RX3) (T := TX3) (N := 21) hx hb hts hinX3 hown hK hP 0 rfl rfl 11 (by decide) k114 (fun _ h9 => h9) rfl dX3_set_82 ?_
                exact rt_I hx hb hr hlk hK hP hD hS (pr_of (Eq.trans (if_neg c_2) (Eq.trans (if_pos c_7) (Eq.trans (if_pos c_26) (Eq.trans (if_neg c_33) (Eq.trans (if_neg c_38) (Eq.trans (if_neg c_65) (Eq.trans (if_neg c_78) (rfl))))))))) dX3_set_85
            · refine lv_aload_n hx hb dX3_set_68 rfl (lv_at hl 0 rfl) ?_
              refine lv_bipush (v := 6) hx hb dX3_set_69 (by decide) ?_
              refine va_put (D := D) (ci := 2) (ty := .int) (C := RX3) (T := TX3) (N := 21) hx hb hts hinX3 tyX3 tyX3_ok nmX3 hown hK hP hD hS 0 rfl rfl 11 (by decide) k114 (fun _ h9 => h9) rfl (by decide +kernel) rfl rfl (Nat.le_of_ble_eq_true rfl) dX3_set_71 (fun H locs hP hD hS => ?_)
              have hP : va_P D vwCl (wM K a (pM_re s 6)) H := hP
              have hD : va_D A (wM K a (pM_re s 6)) := hD
              refine lv_aload_n hx hb dX3_set_74 rfl (lv_at hl 0 rfl) ?_
              refine va_get (D := D) (ci := 2) (C := RX3) (T := TX3) (N := 21) hx hb hts hinX3 hown hK hP 0 rfl rfl 11 (by decide) k114 (fun _ h9 => h9) rfl dX3_set_75 ?_
              refine lv_if_le (tgt := 86) hx hb dX3_set_78 (by decide) (fun c4 => absurd (show (6 : Int32) ≤ (0 : Int32) from c4) (by decide)) (fun c4 => ?_)
              refine lv_aload_n hx hb dX3_set_81 rfl (lv_at hl 0 rfl) ?_
              refine va_get (D := D) (ci := 2) (C := RX3) (T := TX3) (N := 21) hx hb hts hinX3 hown hK hP 0 rfl rfl 11 (by decide) k114 (fun _ h9 => h9) rfl dX3_set_82 ?_
              exact rt_I hx hb hr hlk hK hP hD hS (pr_of (Eq.trans (if_neg c_2) (Eq.trans (if_pos c_7) (Eq.trans (if_pos c_26) (Eq.trans (if_neg c_33) (Eq.trans (if_neg c_38) (Eq.trans (if_pos c_65) (rfl)))))))) dX3_set_85
          · refine lv_lload_n hx hb dX3_set_41 rfl (lv_at hl 3 rfl) ?_
            refine lv_l2i hx hb dX3_set_42 rfl ?_
            refine cl_Pl (c_X3_thin l _) ⟨hx, hb, hml, hown, hts⟩ (va_cwS 1 hts gX3_set_X3_thin rfl rfl rfl (by decide +kernel) ⟨Nat.le_of_ble_eq_true rfl, Nat.le_of_ble_eq_true rfl⟩) rfl hl.1 rfl (Nat.le_of_ble_eq_true rfl) (Nat.zero_le _) (Nat.zero_le _) dX3_set_43 ?_
            refine lv_goto (tgt := 50) hx hb dX3_set_46 (by decide) ?_
            refine lv_iload_n hx hb dX3_set_50 rfl (lv_at hl 2 rfl) ?_
            refine lv_iconst (v := 1) hx hb dX3_set_51 (by decide) ?_
            refine lv_icmp_ne (tgt := 60) hx hb dX3_set_52 (by decide) (fun c5 => absurd c_38 c5) (fun c5 => ?_)
            refine lv_bipush (v := 23) hx hb dX3_set_55 (by decide) ?_
            refine lv_goto (tgt := 62) hx hb dX3_set_57 (by decide) ?_
            refine cl_Pi (c_X3_isNumber l _ _) ⟨hx, hb, hml, hown, hts⟩ (va_cwS 2 hts gX3_set_X3_isNumber rfl rfl rfl (by decide +kernel) ⟨Nat.le_of_ble_eq_true rfl, Nat.le_of_ble_eq_true rfl⟩) rfl hl.1 rfl (Nat.le_of_ble_eq_true rfl) (Nat.zero_le _) (Nat.zero_le _) dX3_set_62 ?_
            refine lv_if_ne (tgt := 74) hx hb dX3_set_65 (by decide) (fun c_65 => ?_) (fun c_65 => ?_)
            · refine lv_aload_n hx hb dX3_set_74 rfl (lv_at hl 0 rfl) ?_
              refine va_get (D := D) (ci := 2) (C := RX3) (T := TX3) (N := 21) hx hb hts hinX3 hown hK hP 0 rfl rfl 11 (by decide) k114 (fun _ h9 => h9) rfl dX3_set_75 ?_
              refine lv_if_le (tgt := 86) hx hb dX3_set_78 (by decide) (fun c_78 => ?_) (fun c_78 => ?_)
              · refine lv_iload_n hx hb dX3_set_86 rfl (lv_at hl 2 rfl) ?_
                by_cases c_87_0 : k = 0
                · refine lv_tableIn (tgt := 120) (off := 33) hx hb dX3_set_87 (by rw [c_87_0]; decide) (by rw [c_87_0]; decide) (by rw [c_87_0]; rfl) (by decide) ?_
                  refine lv_aload_n hx hb dX3_set_120 rfl (lv_at hl 0 rfl) ?_
                  refine va_get (D := D) (ci := 2) (C := RX3) (T := TX3) (N := 21) hx hb hts hinX3 hown hK hP 0 rfl rfl 1 (by decide) k13 (fun _ h9 => h9) rfl dX3_set_121 ?_
                  refine lv_iload_n hx hb dX3_set_124 rfl (lv_at hl 1 rfl) ?_
                  refine lv_lload_n hx hb dX3_set_125 rfl (lv_at hl 3 rfl) ?_
                  refine va_last hx hb hK hP hD hS 2 1 rfl rfl (hm_lack c_78) dX3_set_126 (fun H locs hP hD hS => ?_)
                  have hP : va_P D vwCl (wM K a (pM_L (pM_re s (f_X3_lack s t)) (vp_updL (gM_L s) t.toNatClampNeg b))) H := hP
                  have hD : va_D A (wM K a (pM_L (pM_re s (f_X3_lack s t)) (vp_updL (gM_L s) t.toNatClampNeg b))) := hD
                  refine lv_goto (tgt := 179) hx hb dX3_set_127 (by decide) ?_
                  refine lv_iconst (v := 0) hx hb dX3_set_179 (by decide) ?_
                  exact rt_I hx hb hr hlk hK hP hD hS (pr_of (Eq.trans (if_neg c_2) (Eq.trans (if_pos c_7) (Eq.trans (if_pos c_26) (Eq.trans (if_neg c_33) (Eq.trans (if_pos c_38) (Eq.trans (if_neg c_65) (Eq.trans (if_pos c_78) (Eq.trans (if_pos c_87_0) (rfl)))))))))) dX3_set_180
                by_cases c_87_1 : k = 1
                · refine lv_tableIn (tgt := 130) (off := 43) hx hb dX3_set_87 (by rw [c_87_1]; decide) (by rw [c_87_1]; decide) (by rw [c_87_1]; rfl) (by decide) ?_
                  refine lv_aload_n hx hb dX3_set_130 rfl (lv_at hl 0 rfl) ?_
                  refine va_get (D := D) (ci := 2) (C := RX3) (T := TX3) (N := 21) hx hb hts hinX3 hown hK hP 0 rfl rfl 2 (by decide) k17 (fun _ h9 => h9) rfl dX3_set_131 ?_
                  refine lv_iload_n hx hb dX3_set_134 rfl (lv_at hl 1 rfl) ?_
                  refine lv_lload_n hx hb dX3_set_135 rfl (lv_at hl 3 rfl) ?_
                  refine lv_l2i hx hb dX3_set_136 rfl ?_
                  refine va_iast hx hb hK hP hD hS 3 0 rfl rfl (hm_lack c_78) dX3_set_137 (fun H locs hP hD hS => ?_)
                  have hP : va_P D vwCl (wM K a (pM_P (pM_re s (f_X3_lack s t)) (upd (gM_P s) t.toNatClampNeg (Int64.toInt32 b)))) H := hP
                  have hD : va_D A (wM K a (pM_P (pM_re s (f_X3_lack s t)) (upd (gM_P s) t.toNatClampNeg (Int64.toInt32 b)))) := hD
                  refine lv_goto (tgt := 179) hx hb dX3_set_138 (by decide) ?_
                  refine lv_iconst (v := 0) hx hb dX3_set_179 (by decide) ?_
                  exact rt_I hx hb hr hlk hK hP hD hS (pr_of (Eq.trans (if_neg c_2) (Eq.trans (if_pos c_7) (Eq.trans (if_pos c_26) (Eq.trans (if_neg c_33) (Eq.trans (if_pos c_38) (Eq.trans (if_neg c_65) (Eq.trans (if_pos c_78) (Eq.trans (if_neg c_87_0) (Eq.trans (if_pos c_87_1) (rfl))))))))))) dX3_set_180
                by_cases c_87_2 : k = 2
                · refine lv_tableIn (tgt := 141) (off := 54) hx hb dX3_set_87 (by rw [c_87_2]; decide) (by rw [c_87_2]; decide) (by rw [c_87_2]; rfl) (by decide) ?_
                  refine lv_aload_n hx hb dX3_set_141 rfl (lv_at hl 0 rfl) ?_
                  refine va_get (D := D) (ci := 2) (C := RX3) (T := TX3) (N := 21) hx hb hts hinX3 hown hK hP 0 rfl rfl 3 (by decide) k21 (fun _ h9 => h9) rfl dX3_set_142 ?_
                  refine lv_iload_n hx hb dX3_set_145 rfl (lv_at hl 1 rfl) ?_
                  refine lv_lload_n hx hb dX3_set_146 rfl (lv_at hl 3 rfl) ?_
                  refine lv_l2i hx hb dX3_set_147 rfl ?_
                  refine va_iast hx hb hK hP hD hS 4 0 rfl rfl (hm_lack c_78) dX3_set_148 (fun H locs hP hD hS => ?_)
                  have hP : va_P D vwCl (wM K a (pM_K (pM_re s (f_X3_lack s t)) (upd (gM_K s) t.toNatClampNeg (Int64.toInt32 b)))) H := hP
                  have hD : va_D A (wM K a (pM_K (pM_re s (f_X3_lack s t)) (upd (gM_K s) t.toNatClampNeg (Int64.toInt32 b)))) := hD
                  refine lv_goto (tgt := 179) hx hb dX3_set_149 (by decide) ?_
                  refine lv_iconst (v := 0) hx hb dX3_set_179 (by decide) ?_
                  exact rt_I hx hb hr hlk hK hP hD hS (pr_of (Eq.trans (if_neg c_2) (Eq.trans (if_pos c_7) (Eq.trans (if_pos c_26) (Eq.trans (if_neg c_33) (Eq.trans (if_pos c_38) (Eq.trans (if_neg c_65) (Eq.trans (if_pos c_78) (Eq.trans (if_neg c_87_0) (Eq.trans (if_neg c_87_1) (Eq.trans (if_pos c_87_2) (rfl)))))))))))) dX3_set_180
                by_cases c_87_3 : k = 3
                · refine lv_tableIn (tgt := 152) (off := 65) hx hb dX3_set_87 (by rw [c_87_3]; decide) (by rw [c_87_3]; decide) (by rw [c_87_3]; rfl) (by decide) ?_
                  refine lv_aload_n hx hb dX3_set_152 rfl (lv_at hl 0 rfl) ?_
                  refine va_get (D := D) (ci := 2) (C := RX3) (T := TX3) (N := 21) hx hb hts hinX3 hown hK hP 0 rfl rfl 4 (by decide) k24 (fun _ h9 => h9) rfl dX3_set_153 ?_
                  refine lv_iload_n hx hb dX3_set_156 rfl (lv_at hl 1 rfl) ?_
                  refine lv_lload_n hx hb dX3_set_157 rfl (lv_at hl 3 rfl) ?_
                  refine va_last hx hb hK hP hD hS 5 1 rfl rfl (hm_lack c_78) dX3_set_158 (fun H locs hP hD hS => ?_)
                  have hP : va_P D vwCl (wM K a (pM_T (pM_re s (f_X3_lack s t)) (vp_updL (gM_T s) t.toNatClampNeg b))) H := hP
                  have hD : va_D A (wM K a (pM_T (pM_re s (f_X3_lack s t)) (vp_updL (gM_T s) t.toNatClampNeg b))) := hD
                  refine lv_goto (tgt := 179) hx hb dX3_set_159 (by decide) ?_
                  refine lv_iconst (v := 0) hx hb dX3_set_179 (by decide) ?_
                  exact rt_I hx hb hr hlk hK hP hD hS (pr_of (Eq.trans (if_neg c_2) (Eq.trans (if_pos c_7) (Eq.trans (if_pos c_26) (Eq.trans (if_neg c_33) (Eq.trans (if_pos c_38) (Eq.trans (if_neg c_65) (Eq.trans (if_pos c_78) (Eq.trans (if_neg c_87_0) (Eq.trans (if_neg c_87_1) (Eq.trans (if_neg c_87_2) (Eq.trans (if_pos c_87_3) (rfl))))))))))))) dX3_set_180
                by_cases c_87_4 : k = 4
                · refine lv_tableIn (tgt := 162) (off := 75) hx hb dX3_set_87 (by rw [c_87_4]; decide) (by rw [c_87_4]; decide) (by rw [c_87_4]; rfl) (by decide) ?_
                  refine lv_aload_n hx hb dX3_set_162 rfl (lv_at hl 0 rfl) ?_
                  refine va_get (D := D) (ci := 2) (C := RX3) (T := TX3) (N := 21) hx hb hts hinX3 hown hK hP 0 rfl rfl 5 (by decide) k27 (fun _ h9 => h9) rfl dX3_set_163 ?_
                  refine lv_iload_n hx hb dX3_set_166 rfl (lv_at hl 1 rfl) ?_
                  refine lv_lload_n hx hb dX3_set_167 rfl (lv_at hl 3 rfl) ?_
                  refine va_last hx hb hK hP hD hS 6 1 rfl rfl (hm_lack c_78) dX3_set_168 (fun H locs hP hD hS => ?_)
                  have hP : va_P D vwCl (wM K a (pM_LO (pM_re s (f_X3_lack s t)) (vp_updL (gM_LO s) t.toNatClampNeg b))) H := hP
                  have hD : va_D A (wM K a (pM_LO (pM_re s (f_X3_lack s t)) (vp_updL (gM_LO s) t.toNatClampNeg b))) := hD
                  refine lv_goto (tgt := 179) hx hb dX3_set_169 (by decide) ?_
                  refine lv_iconst (v := 0) hx hb dX3_set_179 (by decide) ?_
                  exact rt_I hx hb hr hlk hK hP hD hS (pr_of (Eq.trans (if_neg c_2) (Eq.trans (if_pos c_7) (Eq.trans (if_pos c_26) (Eq.trans (if_neg c_33) (Eq.trans (if_pos c_38) (Eq.trans (if_neg c_65) (Eq.trans (if_pos c_78) (Eq.trans (if_neg c_87_0) (Eq.trans (if_neg c_87_1) (Eq.trans (if_neg c_87_2) (Eq.trans (if_neg c_87_3) (Eq.trans (if_pos c_87_4) (rfl)))))))))))))) dX3_set_180
                have n_87_0 := sw_i c_87_0 (k := 0) (by decide)
                have n_87_1 := sw_i c_87_1 (k := 1) (by decide)
                have n_87_2 := sw_i c_87_2 (k := 2) (by decide)
                have n_87_3 := sw_i c_87_3 (k := 3) (by decide)
                have n_87_4 := sw_i c_87_4 (k := 4) (by decide)
                refine lv_tableOut (tgt := 172) hx hb dX3_set_87 (by omega) (by decide) ?_
                refine lv_aload_n hx hb dX3_set_172 rfl (lv_at hl 0 rfl) ?_
                refine va_get (D := D) (ci := 2) (C := RX3) (T := TX3) (N := 21) hx hb hts hinX3 hown hK hP 0 rfl rfl 6 (by decide) k30 (fun _ h9 => h9) rfl dX3_set_173 ?_
                refine lv_iload_n hx hb dX3_set_176 rfl (lv_at hl 1 rfl) ?_
                refine lv_lload_n hx hb dX3_set_177 rfl (lv_at hl 3 rfl) ?_
                refine va_last hx hb hK hP hD hS 7 1 rfl rfl (hm_lack c_78) dX3_set_178 (fun H locs hP hD hS => ?_)
                have hP : va_P D vwCl (wM K a (pM_HI (pM_re s (f_X3_lack s t)) (vp_updL (gM_HI s) t.toNatClampNeg b))) H := hP
                have hD : va_D A (wM K a (pM_HI (pM_re s (f_X3_lack s t)) (vp_updL (gM_HI s) t.toNatClampNeg b))) := hD
                refine lv_iconst (v := 0) hx hb dX3_set_179 (by decide) ?_
                exact rt_I hx hb hr hlk hK hP hD hS (pr_of (Eq.trans (if_neg c_2) (Eq.trans (if_pos c_7) (Eq.trans (if_pos c_26) (Eq.trans (if_neg c_33) (Eq.trans (if_pos c_38) (Eq.trans (if_neg c_65) (Eq.trans (if_pos c_78) (Eq.trans (if_neg c_87_0) (Eq.trans (if_neg c_87_1) (Eq.trans (if_neg c_87_2) (Eq.trans (if_neg c_87_3) (Eq.trans (if_neg c_87_4) (rfl)))))))))))))) dX3_set_180
              · refine lv_aload_n hx hb dX3_set_81 rfl (lv_at hl 0 rfl) ?_
                refine va_get (D := D) (ci := 2) (C := RX3) (T := TX3) (N := 21) hx hb hts hinX3 hown hK hP 0 rfl rfl 11 (by decide) k114 (fun _ h9 => h9) rfl dX3_set_82 ?_
                exact rt_I hx hb hr hlk hK hP hD hS (pr_of (Eq.trans (if_neg c_2) (Eq.trans (if_pos c_7) (Eq.trans (if_pos c_26) (Eq.trans (if_neg c_33) (Eq.trans (if_pos c_38) (Eq.trans (if_neg c_65) (Eq.trans (if_neg c_78) (rfl))))))))) dX3_set_85
            · refine lv_aload_n hx hb dX3_set_68 rfl (lv_at hl 0 rfl) ?_
              refine lv_bipush (v := 6) hx hb dX3_set_69 (by decide) ?_
              refine va_put (D := D) (ci := 2) (ty := .int) (C := RX3) (T := TX3) (N := 21) hx hb hts hinX3 tyX3 tyX3_ok nmX3 hown hK hP hD hS 0 rfl rfl 11 (by decide) k114 (fun _ h9 => h9) rfl (by decide +kernel) rfl rfl (Nat.le_of_ble_eq_true rfl) dX3_set_71 (fun H locs hP hD hS => ?_)
              have hP : va_P D vwCl (wM K a (pM_re s 6)) H := hP
              have hD : va_D A (wM K a (pM_re s 6)) := hD
              refine lv_aload_n hx hb dX3_set_74 rfl (lv_at hl 0 rfl) ?_
              refine va_get (D := D) (ci := 2) (C := RX3) (T := TX3) (N := 21) hx hb hts hinX3 hown hK hP 0 rfl rfl 11 (by decide) k114 (fun _ h9 => h9) rfl dX3_set_75 ?_
              refine lv_if_le (tgt := 86) hx hb dX3_set_78 (by decide) (fun c6 => absurd (show (6 : Int32) ≤ (0 : Int32) from c6) (by decide)) (fun c6 => ?_)
              refine lv_aload_n hx hb dX3_set_81 rfl (lv_at hl 0 rfl) ?_
              refine va_get (D := D) (ci := 2) (C := RX3) (T := TX3) (N := 21) hx hb hts hinX3 hown hK hP 0 rfl rfl 11 (by decide) k114 (fun _ h9 => h9) rfl dX3_set_82 ?_
              exact rt_I hx hb hr hlk hK hP hD hS (pr_of (Eq.trans (if_neg c_2) (Eq.trans (if_pos c_7) (Eq.trans (if_pos c_26) (Eq.trans (if_neg c_33) (Eq.trans (if_pos c_38) (Eq.trans (if_pos c_65) (rfl)))))))) dX3_set_85
    · refine lv_iconst (v := 5) hx hb dX3_set_10 (by decide) ?_
      refine lv_goto (tgt := 19) hx hb dX3_set_11 (by decide) ?_
      refine va_put (D := D) (ci := 2) (ty := .int) (C := RX3) (T := TX3) (N := 21) hx hb hts hinX3 tyX3 tyX3_ok nmX3 hown hK hP hD hS 0 rfl rfl 11 (by decide) k114 (fun _ h9 => h9) rfl (by decide +kernel) rfl rfl (Nat.le_of_ble_eq_true rfl) dX3_set_19 (fun H locs hP hD hS => ?_)
      have hP : va_P D vwCl (wM K a (pM_re s 5)) H := hP
      have hD : va_D A (wM K a (pM_re s 5)) := hD
      refine lv_aload_n hx hb dX3_set_22 rfl (lv_at hl 0 rfl) ?_
      refine va_get (D := D) (ci := 2) (C := RX3) (T := TX3) (N := 21) hx hb hts hinX3 hown hK hP 0 rfl rfl 11 (by decide) k114 (fun _ h9 => h9) rfl dX3_set_23 ?_
      refine lv_if_ne (tgt := 74) hx hb dX3_set_26 (by decide) (fun c7 => ?_) (fun c7 => absurd (show (5 : Int32) = (0 : Int32) from c7) (by decide))
      refine lv_aload_n hx hb dX3_set_74 rfl (lv_at hl 0 rfl) ?_
      refine va_get (D := D) (ci := 2) (C := RX3) (T := TX3) (N := 21) hx hb hts hinX3 hown hK hP 0 rfl rfl 11 (by decide) k114 (fun _ h9 => h9) rfl dX3_set_75 ?_
      refine lv_if_le (tgt := 86) hx hb dX3_set_78 (by decide) (fun c8 => absurd (show (5 : Int32) ≤ (0 : Int32) from c8) (by decide)) (fun c8 => ?_)
      refine lv_aload_n hx hb dX3_set_81 rfl (lv_at hl 0 rfl) ?_
      refine va_get (D := D) (ci := 2) (C := RX3) (T := TX3) (N := 21) hx hb hts hinX3 hown hK hP 0 rfl rfl 11 (by decide) k114 (fun _ h9 => h9) rfl dX3_set_82 ?_
      exact rt_I hx hb hr hlk hK hP hD hS (pr_of (Eq.trans (if_neg c_2) (Eq.trans (if_neg c_7) (rfl)))) dX3_set_85

def f_X3_get (s : SM) (t : Int32) (k : Int32) : Int64 × SM := if k < 0 then ((0, pM_re s 5)) else (if k ≤ 5 then (if (f_X3_lack s t) ≤ 0 then (if k = 0 then (((gM_L s) t.toNatClampNeg, pM_re s (f_X3_lack s t))) else (if k = 1 then ((Int32.toInt64 ((gM_P s) t.toNatClampNeg), pM_re s (f_X3_lack s t))) else (if k = 2 then ((Int32.toInt64 ((gM_K s) t.toNatClampNeg), pM_re s (f_X3_lack s t))) else (if k = 3 then (((gM_T s) t.toNatClampNeg, pM_re s (f_X3_lack s t))) else (if k = 4 then (((gM_LO s) t.toNatClampNeg, pM_re s (f_X3_lack s t))) else (((gM_HI s) t.toNatClampNeg, pM_re s (f_X3_lack s t)))))))) else ((0, pM_re s (f_X3_lack s t)))) else ((0, pM_re s 5)))
set_option maxHeartbeats 4000000 in
set_option maxRecDepth 100000 in
theorem c_X3_get (l : Launch) (D : va_G) (K : ClassId × ClassId × ClassId) (a : Nat → Nat) (s : SM) (t : Int32) (k : Int32)   : MetL l yX3_get wsX3_get { frames := 2, cells := 0, slots := 0, locals := 41 } D vwCl (tyK K) (wM K a) [.ref (a 0), .int t, .int k] s (f_X3_get s t k).1 (f_X3_get s t k).2 := by
  intro sz0
  refine en_W (cc := cX3_get) (maxL := 3) (ret := (some .long)) (Qc := fun A => va_Ql (fun (x0 : Int64) (u0 : SM) => x0 = (f_X3_get s t k).1 ∧ u0 = (f_X3_get s t k).2) (bs_a D vwCl (tyK K) (wM K a) A) A) (by decide) rfl (Nat.le_of_ble_eq_true rfl) ?_ sz0
  intro p e st m below meth c ls A hx hb hr hml hts hown hlk hA hK hP hD hS hl
  have hown : st.vm.findClass RX3 = some m.cls := hown
  have hl : lv_has ls 3 [(0, .ref (a 0)), (1, .int t), (2, .int k)] := hl
  have hinX3 : ∀ w ∈ u_ws RX3 TX3 21, w ∈ wsX3_get := fun w h => List.mem_cons_of_mem _ (List.mem_append_right _ h)
  have k114 := hts (.fieldLink RX3 114 "PuppetBarModel" "refusal" "I") (by decide +kernel)
  have k30 := hts (.fieldLink RX3 30 "PuppetBarModel" "high" "[J") (by decide +kernel)
  have k27 := hts (.fieldLink RX3 27 "PuppetBarModel" "low" "[J") (by decide +kernel)
  have k24 := hts (.fieldLink RX3 24 "PuppetBarModel" "twist" "[J") (by decide +kernel)
  have k21 := hts (.fieldLink RX3 21 "PuppetBarModel" "knots" "[I") (by decide +kernel)
  have k17 := hts (.fieldLink RX3 17 "PuppetBarModel" "pull" "[I") (by decide +kernel)
  have k13 := hts (.fieldLink RX3 13 "PuppetBarModel" "length" "[J") (by decide +kernel)
  refine lv_aload_n hx hb dX3_get_0 rfl (lv_at hl 0 rfl) ?_
  refine lv_iload_n hx hb dX3_get_1 rfl (lv_at hl 2 rfl) ?_
  refine lv_if_lt (tgt := 10) hx hb dX3_get_2 (by decide) (fun c_2 => ?_) (fun c_2 => ?_)
  · refine lv_iconst (v := 5) hx hb dX3_get_10 (by decide) ?_
    refine lv_goto (tgt := 19) hx hb dX3_get_11 (by decide) ?_
    refine va_put (D := D) (ci := 2) (ty := .int) (C := RX3) (T := TX3) (N := 21) hx hb hts hinX3 tyX3 tyX3_ok nmX3 hown hK hP hD hS 0 rfl rfl 11 (by decide) k114 (fun _ h9 => h9) rfl (by decide +kernel) rfl rfl (Nat.le_of_ble_eq_true rfl) dX3_get_19 (fun H locs hP hD hS => ?_)
    have hP : va_P D vwCl (wM K a (pM_re s 5)) H := hP
    have hD : va_D A (wM K a (pM_re s 5)) := hD
    refine lv_aload_n hx hb dX3_get_22 rfl (lv_at hl 0 rfl) ?_
    refine va_get (D := D) (ci := 2) (C := RX3) (T := TX3) (N := 21) hx hb hts hinX3 hown hK hP 0 rfl rfl 11 (by decide) k114 (fun _ h9 => h9) rfl dX3_get_23 ?_
    refine lv_if_le (tgt := 31) hx hb dX3_get_26 (by decide) (fun c1 => absurd (show (5 : Int32) ≤ (0 : Int32) from c1) (by decide)) (fun c1 => ?_)
    refine lv_lconst (v := 0) hx hb dX3_get_29 (by decide) ?_
    exact rt_L hx hb hr hlk hK hP hD hS (pr_of (Eq.trans (if_pos c_2) (rfl))) dX3_get_30
  · refine lv_iload_n hx hb dX3_get_5 rfl (lv_at hl 2 rfl) ?_
    refine lv_iconst (v := 5) hx hb dX3_get_6 (by decide) ?_
    refine lv_icmp_le (tgt := 14) hx hb dX3_get_7 (by decide) (fun c_7 => ?_) (fun c_7 => ?_)
    · refine lv_aload_n hx hb dX3_get_14 rfl (lv_at hl 0 rfl) ?_
      refine lv_iload_n hx hb dX3_get_15 rfl (lv_at hl 1 rfl) ?_
      refine cl_I (c_X3_lack l D K a _ _ ) ⟨hx, hb, hml, hown, hts⟩ (cwV 1 hts gX3_get_X3_lack rfl rfl rfl (by decide +kernel) ⟨Nat.le_of_ble_eq_true rfl, Nat.le_of_ble_eq_true rfl⟩) hK hP hD hS hA rfl rfl rfl rfl hl.1 rfl (Nat.le_of_ble_eq_true rfl) (Nat.zero_le _) (Nat.zero_le _) dX3_get_16 (fun H locs hP hD hS => ?_)
      refine va_put (D := D) (ci := 2) (ty := .int) (C := RX3) (T := TX3) (N := 21) hx hb hts hinX3 tyX3 tyX3_ok nmX3 hown hK hP hD hS 0 rfl rfl 11 (by decide) k114 (fun _ h9 => h9) rfl (by decide +kernel) rfl rfl (Nat.le_of_ble_eq_true rfl) dX3_get_19 (fun H locs hP hD hS => ?_)
      have hP : va_P D vwCl (wM K a (pM_re s (f_X3_lack s t))) H := hP
      have hD : va_D A (wM K a (pM_re s (f_X3_lack s t))) := hD
      refine lv_aload_n hx hb dX3_get_22 rfl (lv_at hl 0 rfl) ?_
      refine va_get (D := D) (ci := 2) (C := RX3) (T := TX3) (N := 21) hx hb hts hinX3 hown hK hP 0 rfl rfl 11 (by decide) k114 (fun _ h9 => h9) rfl dX3_get_23 ?_
      refine lv_if_le (tgt := 31) hx hb dX3_get_26 (by decide) (fun c_26 => ?_) (fun c_26 => ?_)
      · refine lv_iload_n hx hb dX3_get_31 rfl (lv_at hl 2 rfl) ?_
        refine lv_if_ne (tgt := 44) hx hb dX3_get_32 (by decide) (fun c_32 => ?_) (fun c_32 => ?_)
        · refine lv_iload_n hx hb dX3_get_44 rfl (lv_at hl 2 rfl) ?_
          refine lv_iconst (v := 1) hx hb dX3_get_45 (by decide) ?_
          refine lv_icmp_ne (tgt := 59) hx hb dX3_get_46 (by decide) (fun c_46 => ?_) (fun c_46 => ?_)
          · refine lv_iload_n hx hb dX3_get_59 rfl (lv_at hl 2 rfl) ?_
            refine lv_iconst (v := 2) hx hb dX3_get_60 (by decide) ?_
            refine lv_icmp_ne (tgt := 74) hx hb dX3_get_61 (by decide) (fun c_61 => ?_) (fun c_61 => ?_)
            · refine lv_iload_n hx hb dX3_get_74 rfl (lv_at hl 2 rfl) ?_
              refine lv_iconst (v := 3) hx hb dX3_get_75 (by decide) ?_
              refine lv_icmp_ne (tgt := 88) hx hb dX3_get_76 (by decide) (fun c_76 => ?_) (fun c_76 => ?_)
              · refine lv_iload_n hx hb dX3_get_88 rfl (lv_at hl 2 rfl) ?_
                refine lv_iconst (v := 4) hx hb dX3_get_89 (by decide) ?_
                refine lv_icmp_ne (tgt := 102) hx hb dX3_get_90 (by decide) (fun c_90 => ?_) (fun c_90 => ?_)
                · refine lv_aload_n hx hb dX3_get_102 rfl (lv_at hl 0 rfl) ?_
                  refine va_get (D := D) (ci := 2) (C := RX3) (T := TX3) (N := 21) hx hb hts hinX3 hown hK hP 0 rfl rfl 6 (by decide) k30 (fun _ h9 => h9) rfl dX3_get_103 ?_
                  refine lv_iload_n hx hb dX3_get_106 rfl (lv_at hl 1 rfl) ?_
                  refine va_lald hx hb hK hP 7 1 rfl rfl (hm_lack c_26) dX3_get_107 ?_
                  exact rt_L hx hb hr hlk hK hP hD hS (pr_of (Eq.trans (if_neg c_2) (Eq.trans (if_pos c_7) (Eq.trans (if_pos c_26) (Eq.trans (if_neg c_32) (Eq.trans (if_neg c_46) (Eq.trans (if_neg c_61) (Eq.trans (if_neg c_76) (Eq.trans (if_neg c_90) (rfl)))))))))) dX3_get_108
                · refine lv_aload_n hx hb dX3_get_93 rfl (lv_at hl 0 rfl) ?_
                  refine va_get (D := D) (ci := 2) (C := RX3) (T := TX3) (N := 21) hx hb hts hinX3 hown hK hP 0 rfl rfl 5 (by decide) k27 (fun _ h9 => h9) rfl dX3_get_94 ?_
                  refine lv_iload_n hx hb dX3_get_97 rfl (lv_at hl 1 rfl) ?_
                  refine va_lald hx hb hK hP 6 1 rfl rfl (hm_lack c_26) dX3_get_98 ?_
                  refine lv_goto (tgt := 108) hx hb dX3_get_99 (by decide) ?_
                  exact rt_L hx hb hr hlk hK hP hD hS (pr_of (Eq.trans (if_neg c_2) (Eq.trans (if_pos c_7) (Eq.trans (if_pos c_26) (Eq.trans (if_neg c_32) (Eq.trans (if_neg c_46) (Eq.trans (if_neg c_61) (Eq.trans (if_neg c_76) (Eq.trans (if_pos c_90) (rfl)))))))))) dX3_get_108
              · refine lv_aload_n hx hb dX3_get_79 rfl (lv_at hl 0 rfl) ?_
                refine va_get (D := D) (ci := 2) (C := RX3) (T := TX3) (N := 21) hx hb hts hinX3 hown hK hP 0 rfl rfl 4 (by decide) k24 (fun _ h9 => h9) rfl dX3_get_80 ?_
                refine lv_iload_n hx hb dX3_get_83 rfl (lv_at hl 1 rfl) ?_
                refine va_lald hx hb hK hP 5 1 rfl rfl (hm_lack c_26) dX3_get_84 ?_
                refine lv_goto (tgt := 108) hx hb dX3_get_85 (by decide) ?_
                exact rt_L hx hb hr hlk hK hP hD hS (pr_of (Eq.trans (if_neg c_2) (Eq.trans (if_pos c_7) (Eq.trans (if_pos c_26) (Eq.trans (if_neg c_32) (Eq.trans (if_neg c_46) (Eq.trans (if_neg c_61) (Eq.trans (if_pos c_76) (rfl))))))))) dX3_get_108
            · refine lv_aload_n hx hb dX3_get_64 rfl (lv_at hl 0 rfl) ?_
              refine va_get (D := D) (ci := 2) (C := RX3) (T := TX3) (N := 21) hx hb hts hinX3 hown hK hP 0 rfl rfl 3 (by decide) k21 (fun _ h9 => h9) rfl dX3_get_65 ?_
              refine lv_iload_n hx hb dX3_get_68 rfl (lv_at hl 1 rfl) ?_
              refine va_iald hx hb hK hP 4 0 rfl rfl (hm_lack c_26) dX3_get_69 ?_
              refine lv_i2l hx hb dX3_get_70 rfl ?_
              refine lv_goto (tgt := 108) hx hb dX3_get_71 (by decide) ?_
              exact rt_L hx hb hr hlk hK hP hD hS (pr_of (Eq.trans (if_neg c_2) (Eq.trans (if_pos c_7) (Eq.trans (if_pos c_26) (Eq.trans (if_neg c_32) (Eq.trans (if_neg c_46) (Eq.trans (if_pos c_61) (rfl)))))))) dX3_get_108
          · refine lv_aload_n hx hb dX3_get_49 rfl (lv_at hl 0 rfl) ?_
            refine va_get (D := D) (ci := 2) (C := RX3) (T := TX3) (N := 21) hx hb hts hinX3 hown hK hP 0 rfl rfl 2 (by decide) k17 (fun _ h9 => h9) rfl dX3_get_50 ?_
            refine lv_iload_n hx hb dX3_get_53 rfl (lv_at hl 1 rfl) ?_
            refine va_iald hx hb hK hP 3 0 rfl rfl (hm_lack c_26) dX3_get_54 ?_
            refine lv_i2l hx hb dX3_get_55 rfl ?_
            refine lv_goto (tgt := 108) hx hb dX3_get_56 (by decide) ?_
            exact rt_L hx hb hr hlk hK hP hD hS (pr_of (Eq.trans (if_neg c_2) (Eq.trans (if_pos c_7) (Eq.trans (if_pos c_26) (Eq.trans (if_neg c_32) (Eq.trans (if_pos c_46) (rfl))))))) dX3_get_108
        · refine lv_aload_n hx hb dX3_get_35 rfl (lv_at hl 0 rfl) ?_
          refine va_get (D := D) (ci := 2) (C := RX3) (T := TX3) (N := 21) hx hb hts hinX3 hown hK hP 0 rfl rfl 1 (by decide) k13 (fun _ h9 => h9) rfl dX3_get_36 ?_
          refine lv_iload_n hx hb dX3_get_39 rfl (lv_at hl 1 rfl) ?_
          refine va_lald hx hb hK hP 2 1 rfl rfl (hm_lack c_26) dX3_get_40 ?_
          refine lv_goto (tgt := 108) hx hb dX3_get_41 (by decide) ?_
          exact rt_L hx hb hr hlk hK hP hD hS (pr_of (Eq.trans (if_neg c_2) (Eq.trans (if_pos c_7) (Eq.trans (if_pos c_26) (Eq.trans (if_pos c_32) (rfl)))))) dX3_get_108
      · refine lv_lconst (v := 0) hx hb dX3_get_29 (by decide) ?_
        exact rt_L hx hb hr hlk hK hP hD hS (pr_of (Eq.trans (if_neg c_2) (Eq.trans (if_pos c_7) (Eq.trans (if_neg c_26) (rfl))))) dX3_get_30
    · refine lv_iconst (v := 5) hx hb dX3_get_10 (by decide) ?_
      refine lv_goto (tgt := 19) hx hb dX3_get_11 (by decide) ?_
      refine va_put (D := D) (ci := 2) (ty := .int) (C := RX3) (T := TX3) (N := 21) hx hb hts hinX3 tyX3 tyX3_ok nmX3 hown hK hP hD hS 0 rfl rfl 11 (by decide) k114 (fun _ h9 => h9) rfl (by decide +kernel) rfl rfl (Nat.le_of_ble_eq_true rfl) dX3_get_19 (fun H locs hP hD hS => ?_)
      have hP : va_P D vwCl (wM K a (pM_re s 5)) H := hP
      have hD : va_D A (wM K a (pM_re s 5)) := hD
      refine lv_aload_n hx hb dX3_get_22 rfl (lv_at hl 0 rfl) ?_
      refine va_get (D := D) (ci := 2) (C := RX3) (T := TX3) (N := 21) hx hb hts hinX3 hown hK hP 0 rfl rfl 11 (by decide) k114 (fun _ h9 => h9) rfl dX3_get_23 ?_
      refine lv_if_le (tgt := 31) hx hb dX3_get_26 (by decide) (fun c2 => absurd (show (5 : Int32) ≤ (0 : Int32) from c2) (by decide)) (fun c2 => ?_)
      refine lv_lconst (v := 0) hx hb dX3_get_29 (by decide) ?_
      exact rt_L hx hb hr hlk hK hP hD hS (pr_of (Eq.trans (if_neg c_2) (Eq.trans (if_neg c_7) (rfl)))) dX3_get_30

def f_X3_cut (s : SM) (t : Int32) : Int32 × SM := if (f_X3_lack s t) = 0 then ((f_X3_lack s t, pM_Z (pM_re s (f_X3_lack s t)) (upd (gM_Z s) t.toNatClampNeg (vp_nar .boolean 1)))) else ((f_X3_lack s t, pM_re s (f_X3_lack s t)))
set_option maxHeartbeats 4000000 in
set_option maxRecDepth 100000 in
theorem c_X3_cut (l : Launch) (D : va_G) (K : ClassId × ClassId × ClassId) (a : Nat → Nat) (s : SM) (t : Int32)   : MetI l yX3_cut wsX3_cut { frames := 2, cells := 0, slots := 0, locals := 41 } D vwCl (tyK K) (wM K a) [.ref (a 0), .int t] s (f_X3_cut s t).1 (f_X3_cut s t).2 := by
  intro sz0
  refine en_W (cc := cX3_cut) (maxL := 2) (ret := (some .int)) (Qc := fun A => va_Qi (fun (x0 : Int32) (u0 : SM) => x0 = (f_X3_cut s t).1 ∧ u0 = (f_X3_cut s t).2) (bs_a D vwCl (tyK K) (wM K a) A) A) (by decide) rfl (Nat.le_of_ble_eq_true rfl) ?_ sz0
  intro p e st m below meth c ls A hx hb hr hml hts hown hlk hA hK hP hD hS hl
  have hown : st.vm.findClass RX3 = some m.cls := hown
  have hl : lv_has ls 2 [(0, .ref (a 0)), (1, .int t)] := hl
  have hinX3 : ∀ w ∈ u_ws RX3 TX3 21, w ∈ wsX3_cut := fun w h => List.mem_cons_of_mem _ (List.mem_append_right _ h)
  have k114 := hts (.fieldLink RX3 114 "PuppetBarModel" "refusal" "I") (by decide +kernel)
  have k7 := hts (.fieldLink RX3 7 "PuppetBarModel" "isCut" "[Z") (by decide +kernel)
  refine lv_aload_n hx hb dX3_cut_0 rfl (lv_at hl 0 rfl) ?_
  refine lv_aload_n hx hb dX3_cut_1 rfl (lv_at hl 0 rfl) ?_
  refine lv_iload_n hx hb dX3_cut_2 rfl (lv_at hl 1 rfl) ?_
  refine cl_I (c_X3_lack l D K a _ _ ) ⟨hx, hb, hml, hown, hts⟩ (cwV 1 hts gX3_cut_X3_lack rfl rfl rfl (by decide +kernel) ⟨Nat.le_of_ble_eq_true rfl, Nat.le_of_ble_eq_true rfl⟩) hK hP hD hS hA rfl rfl rfl rfl hl.1 rfl (Nat.le_of_ble_eq_true rfl) (Nat.zero_le _) (Nat.zero_le _) dX3_cut_3 (fun H locs hP hD hS => ?_)
  refine va_put (D := D) (ci := 2) (ty := .int) (C := RX3) (T := TX3) (N := 21) hx hb hts hinX3 tyX3 tyX3_ok nmX3 hown hK hP hD hS 0 rfl rfl 11 (by decide) k114 (fun _ h9 => h9) rfl (by decide +kernel) rfl rfl (Nat.le_of_ble_eq_true rfl) dX3_cut_6 (fun H locs hP hD hS => ?_)
  have hP : va_P D vwCl (wM K a (pM_re s (f_X3_lack s t))) H := hP
  have hD : va_D A (wM K a (pM_re s (f_X3_lack s t))) := hD
  refine lv_aload_n hx hb dX3_cut_9 rfl (lv_at hl 0 rfl) ?_
  refine va_get (D := D) (ci := 2) (C := RX3) (T := TX3) (N := 21) hx hb hts hinX3 hown hK hP 0 rfl rfl 11 (by decide) k114 (fun _ h9 => h9) rfl dX3_cut_10 ?_
  refine lv_if_ne (tgt := 23) hx hb dX3_cut_13 (by decide) (fun c_13 => ?_) (fun c_13 => ?_)
  · refine lv_aload_n hx hb dX3_cut_23 rfl (lv_at hl 0 rfl) ?_
    refine va_get (D := D) (ci := 2) (C := RX3) (T := TX3) (N := 21) hx hb hts hinX3 hown hK hP 0 rfl rfl 11 (by decide) k114 (fun _ h9 => h9) rfl dX3_cut_24 ?_
    exact rt_I hx hb hr hlk hK hP hD hS (pr_of (Eq.trans (if_neg c_13) (rfl))) dX3_cut_27
  · refine lv_aload_n hx hb dX3_cut_16 rfl (lv_at hl 0 rfl) ?_
    refine va_get (D := D) (ci := 2) (C := RX3) (T := TX3) (N := 21) hx hb hts hinX3 hown hK hP 0 rfl rfl 0 (by decide) k7 (fun _ h9 => h9) rfl dX3_cut_17 ?_
    refine lv_iload_n hx hb dX3_cut_20 rfl (lv_at hl 1 rfl) ?_
    refine lv_iconst (v := 1) hx hb dX3_cut_21 (by decide) ?_
    refine va_zast hx hb hK hP hD hS 1 2 rfl rfl (hm_lack0 c_13) dX3_cut_22 (fun H locs hP hD hS => ?_)
    have hP : va_P D vwCl (wM K a (pM_Z (pM_re s (f_X3_lack s t)) (upd (gM_Z s) t.toNatClampNeg (vp_nar .boolean 1)))) H := hP
    have hD : va_D A (wM K a (pM_Z (pM_re s (f_X3_lack s t)) (upd (gM_Z s) t.toNatClampNeg (vp_nar .boolean 1)))) := hD
    refine lv_aload_n hx hb dX3_cut_23 rfl (lv_at hl 0 rfl) ?_
    refine va_get (D := D) (ci := 2) (C := RX3) (T := TX3) (N := 21) hx hb hts hinX3 hown hK hP 0 rfl rfl 11 (by decide) k114 (fun _ h9 => h9) rfl dX3_cut_24 ?_
    exact rt_I hx hb hr hlk hK hP hD hS (pr_of (Eq.trans (if_pos c_13) (rfl))) dX3_cut_27

def f_X3_string (s : SM) (t : Int32) : Int32 × SM := if (f_X3_isThread t) = 0 then ((1, pM_re s 1)) else (if ((gM_Z s) t.toNatClampNeg) = 0 then ((7, pM_re s 7)) else (let s3 := f_X3_begin (pM_re s 0) t; (gM_re s3, s3)))
set_option maxHeartbeats 4000000 in
set_option maxRecDepth 100000 in
theorem c_X3_string (l : Launch) (D : va_G) (K : ClassId × ClassId × ClassId) (a : Nat → Nat) (s : SM) (t : Int32)   : MetI l yX3_string wsX3_string { frames := 3, cells := 0, slots := 0, locals := 61 } D vwCl (tyK K) (wM K a) [.ref (a 0), .int t] s (f_X3_string s t).1 (f_X3_string s t).2 := by
  intro sz0
  refine en_W (cc := cX3_string) (maxL := 2) (ret := (some .int)) (Qc := fun A => va_Qi (fun (x0 : Int32) (u0 : SM) => x0 = (f_X3_string s t).1 ∧ u0 = (f_X3_string s t).2) (bs_a D vwCl (tyK K) (wM K a) A) A) (by decide) rfl (Nat.le_of_ble_eq_true rfl) ?_ sz0
  intro p e st m below meth c ls A hx hb hr hml hts hown hlk hA hK hP hD hS hl
  have hown : st.vm.findClass RX3 = some m.cls := hown
  have hl : lv_has ls 2 [(0, .ref (a 0)), (1, .int t)] := hl
  have hinX3 : ∀ w ∈ u_ws RX3 TX3 21, w ∈ wsX3_string := fun w h => List.mem_cons_of_mem _ (List.mem_append_right _ h)
  have k7 := hts (.fieldLink RX3 7 "PuppetBarModel" "isCut" "[Z") (by decide +kernel)
  have k114 := hts (.fieldLink RX3 114 "PuppetBarModel" "refusal" "I") (by decide +kernel)
  refine lv_aload_n hx hb dX3_string_0 rfl (lv_at hl 0 rfl) ?_
  refine lv_iload_n hx hb dX3_string_1 rfl (lv_at hl 1 rfl) ?_
  refine cl_Pi (c_X3_isThread l _) ⟨hx, hb, hml, hown, hts⟩ (va_cwS 1 hts gX3_string_X3_isThread rfl rfl rfl (by decide +kernel) ⟨Nat.le_of_ble_eq_true rfl, Nat.le_of_ble_eq_true rfl⟩) rfl hl.1 rfl (Nat.le_of_ble_eq_true rfl) (Nat.zero_le _) (Nat.zero_le _) dX3_string_2 ?_
  refine lv_if_ne (tgt := 12) hx hb dX3_string_5 (by decide) (fun c_5 => ?_) (fun c_5 => ?_)
  · refine lv_aload_n hx hb dX3_string_12 rfl (lv_at hl 0 rfl) ?_
    refine va_get (D := D) (ci := 2) (C := RX3) (T := TX3) (N := 21) hx hb hts hinX3 hown hK hP 0 rfl rfl 0 (by decide) k7 (fun _ h9 => h9) rfl dX3_string_13 ?_
    refine lv_iload_n hx hb dX3_string_16 rfl (lv_at hl 1 rfl) ?_
    refine va_zald hx hb hK hP 1 2 rfl rfl (hm_thr c_5) dX3_string_17 ?_
    refine lv_if_eq (tgt := 25) hx hb dX3_string_18 (by decide) (fun c_18 => ?_) (fun c_18 => ?_)
    · refine lv_bipush (v := 7) hx hb dX3_string_25 (by decide) ?_
      refine va_put (D := D) (ci := 2) (ty := .int) (C := RX3) (T := TX3) (N := 21) hx hb hts hinX3 tyX3 tyX3_ok nmX3 hown hK hP hD hS 0 rfl rfl 11 (by decide) k114 (fun _ h9 => h9) rfl (by decide +kernel) rfl rfl (Nat.le_of_ble_eq_true rfl) dX3_string_27 (fun H locs hP hD hS => ?_)
      have hP : va_P D vwCl (wM K a (pM_re s 7)) H := hP
      have hD : va_D A (wM K a (pM_re s 7)) := hD
      refine lv_aload_n hx hb dX3_string_30 rfl (lv_at hl 0 rfl) ?_
      refine va_get (D := D) (ci := 2) (C := RX3) (T := TX3) (N := 21) hx hb hts hinX3 hown hK hP 0 rfl rfl 11 (by decide) k114 (fun _ h9 => h9) rfl dX3_string_31 ?_
      refine lv_if_ne (tgt := 42) hx hb dX3_string_34 (by decide) (fun c1 => ?_) (fun c1 => absurd (show (7 : Int32) = (0 : Int32) from c1) (by decide))
      refine lv_aload_n hx hb dX3_string_42 rfl (lv_at hl 0 rfl) ?_
      refine va_get (D := D) (ci := 2) (C := RX3) (T := TX3) (N := 21) hx hb hts hinX3 hown hK hP 0 rfl rfl 11 (by decide) k114 (fun _ h9 => h9) rfl dX3_string_43 ?_
      exact rt_I hx hb hr hlk hK hP hD hS (pr_of (Eq.trans (if_neg c_5) (Eq.trans (if_pos c_18) (rfl)))) dX3_string_46
    · refine lv_iconst (v := 0) hx hb dX3_string_21 (by decide) ?_
      refine lv_goto (tgt := 27) hx hb dX3_string_22 (by decide) ?_
      refine va_put (D := D) (ci := 2) (ty := .int) (C := RX3) (T := TX3) (N := 21) hx hb hts hinX3 tyX3 tyX3_ok nmX3 hown hK hP hD hS 0 rfl rfl 11 (by decide) k114 (fun _ h9 => h9) rfl (by decide +kernel) rfl rfl (Nat.le_of_ble_eq_true rfl) dX3_string_27 (fun H locs hP hD hS => ?_)
      have hP : va_P D vwCl (wM K a (pM_re s 0)) H := hP
      have hD : va_D A (wM K a (pM_re s 0)) := hD
      refine lv_aload_n hx hb dX3_string_30 rfl (lv_at hl 0 rfl) ?_
      refine va_get (D := D) (ci := 2) (C := RX3) (T := TX3) (N := 21) hx hb hts hinX3 hown hK hP 0 rfl rfl 11 (by decide) k114 (fun _ h9 => h9) rfl dX3_string_31 ?_
      refine lv_if_ne (tgt := 42) hx hb dX3_string_34 (by decide) (fun c2 => absurd (show (0 : Int32) = (0 : Int32) by decide) (show ¬ (0 : Int32) = (0 : Int32) from c2)) (fun c2 => ?_)
      refine lv_aload_n hx hb dX3_string_37 rfl (lv_at hl 0 rfl) ?_
      refine lv_iload_n hx hb dX3_string_38 rfl (lv_at hl 1 rfl) ?_
      refine cl_V (c_X3_begin l D K a _ _ (hm_thr c_5)) ⟨hx, hb, hml, hown, hts⟩ (cwV 1 hts gX3_string_X3_begin rfl rfl rfl (by decide +kernel) ⟨Nat.le_of_ble_eq_true rfl, Nat.le_of_ble_eq_true rfl⟩) hK hP hD hS hA rfl rfl rfl rfl hl.1 rfl (Nat.le_of_ble_eq_true rfl) (Nat.zero_le _) (Nat.zero_le _) dX3_string_39 (fun H locs hP hD hS => ?_)
      obtain ⟨s3, es3⟩ : ∃ zz : SM, f_X3_begin (pM_re s 0) t = zz := ⟨_, rfl⟩
      rw [es3] at hP hD
      refine lv_aload_n hx hb dX3_string_42 rfl (lv_at hl 0 rfl) ?_
      refine va_get (D := D) (ci := 2) (C := RX3) (T := TX3) (N := 21) hx hb hts hinX3 hown hK hP 0 rfl rfl 11 (by decide) k114 (fun _ h9 => h9) rfl dX3_string_43 ?_
      subst es3
      exact rt_I hx hb hr hlk hK hP hD hS (pr_of (Eq.trans (if_neg c_5) (Eq.trans (if_neg c_18) (rfl)))) dX3_string_46
  · refine lv_iconst (v := 1) hx hb dX3_string_8 (by decide) ?_
    refine lv_goto (tgt := 27) hx hb dX3_string_9 (by decide) ?_
    refine va_put (D := D) (ci := 2) (ty := .int) (C := RX3) (T := TX3) (N := 21) hx hb hts hinX3 tyX3 tyX3_ok nmX3 hown hK hP hD hS 0 rfl rfl 11 (by decide) k114 (fun _ h9 => h9) rfl (by decide +kernel) rfl rfl (Nat.le_of_ble_eq_true rfl) dX3_string_27 (fun H locs hP hD hS => ?_)
    have hP : va_P D vwCl (wM K a (pM_re s 1)) H := hP
    have hD : va_D A (wM K a (pM_re s 1)) := hD
    refine lv_aload_n hx hb dX3_string_30 rfl (lv_at hl 0 rfl) ?_
    refine va_get (D := D) (ci := 2) (C := RX3) (T := TX3) (N := 21) hx hb hts hinX3 hown hK hP 0 rfl rfl 11 (by decide) k114 (fun _ h9 => h9) rfl dX3_string_31 ?_
    refine lv_if_ne (tgt := 42) hx hb dX3_string_34 (by decide) (fun c4 => ?_) (fun c4 => absurd (show (1 : Int32) = (0 : Int32) from c4) (by decide))
    refine lv_aload_n hx hb dX3_string_42 rfl (lv_at hl 0 rfl) ?_
    refine va_get (D := D) (ci := 2) (C := RX3) (T := TX3) (N := 21) hx hb hts hinX3 hown hK hP 0 rfl rfl 11 (by decide) k114 (fun _ h9 => h9) rfl dX3_string_43 ?_
    exact rt_I hx hb hr hlk hK hP hD hS (pr_of (Eq.trans (if_pos c_5) (rfl))) dX3_string_46

def f_X3_step (s : SM) (n : Int32) (t : Int32) (u : Int32) : Int32 × SM := if (gM_st s) = 40 then (((-1), s)) else (((gM_st s) + 1, pM_st (pM_FG s (upd (upd (upd (gM_FG s) (3 * (gM_st s)).toNatClampNeg n) ((3 * (gM_st s)) + 1).toNatClampNeg t) ((3 * (gM_st s)) + 2).toNatClampNeg u)) ((gM_st s) + 1)))
set_option maxHeartbeats 4000000 in
set_option maxRecDepth 100000 in
theorem c_X3_step (l : Launch) (D : va_G) (K : ClassId × ClassId × ClassId) (a : Nat → Nat) (s : SM) (n : Int32) (t : Int32) (u : Int32)  (hst : ∃ j : Nat, j ≤ 40 ∧ gM_st s = nI j) : MetI l yX3_step wsX3_step { frames := 0, cells := 0, slots := 0, locals := 0 } D vwCl (tyK K) (wM K a) [.ref (a 0), .int n, .int t, .int u] s (f_X3_step s n t u).1 (f_X3_step s n t u).2 := by
  intro sz0
  refine en_W (cc := cX3_step) (maxL := 4) (ret := (some .int)) (Qc := fun A => va_Qi (fun (x0 : Int32) (u0 : SM) => x0 = (f_X3_step s n t u).1 ∧ u0 = (f_X3_step s n t u).2) (bs_a D vwCl (tyK K) (wM K a) A) A) (by decide) rfl (Nat.le_of_ble_eq_true rfl) ?_ sz0
  intro p e st m below meth c ls A hx hb hr hml hts hown hlk hA hK hP hD hS hl
  have hown : st.vm.findClass RX3 = some m.cls := hown
  have hl : lv_has ls 4 [(0, .ref (a 0)), (1, .int n), (2, .int t), (3, .int u)] := hl
  have hinX3 : ∀ w ∈ u_ws RX3 TX3 21, w ∈ wsX3_step := fun w h => List.mem_cons_of_mem _ (List.mem_append_right _ h)
  have k221 := hts (.fieldLink RX3 221 "PuppetBarModel" "steps" "I") (by decide +kernel)
  have k33 := hts (.fieldLink RX3 33 "PuppetBarModel" "figure" "[I") (by decide +kernel)
  refine lv_aload_n hx hb dX3_step_0 rfl (lv_at hl 0 rfl) ?_
  refine va_get (D := D) (ci := 2) (C := RX3) (T := TX3) (N := 21) hx hb hts hinX3 hown hK hP 0 rfl rfl 12 (by decide) k221 (fun _ h9 => h9) rfl dX3_step_1 ?_
  refine lv_bipush (v := 40) hx hb dX3_step_4 (by decide) ?_
  refine lv_icmp_ne (tgt := 11) hx hb dX3_step_6 (by decide) (fun c_6 => ?_) (fun c_6 => ?_)
  · refine lv_aload_n hx hb dX3_step_11 rfl (lv_at hl 0 rfl) ?_
    refine va_get (D := D) (ci := 2) (C := RX3) (T := TX3) (N := 21) hx hb hts hinX3 hown hK hP 0 rfl rfl 13 (by decide) k33 (fun _ h9 => h9) rfl dX3_step_12 ?_
    refine lv_iconst (v := 3) hx hb dX3_step_15 (by decide) ?_
    refine lv_aload_n hx hb dX3_step_16 rfl (lv_at hl 0 rfl) ?_
    refine va_get (D := D) (ci := 2) (C := RX3) (T := TX3) (N := 21) hx hb hts hinX3 hown hK hP 0 rfl rfl 12 (by decide) k221 (fun _ h9 => h9) rfl dX3_step_17 ?_
    refine lv_imul hx hb dX3_step_20 ?_
    refine lv_iload_n hx hb dX3_step_21 rfl (lv_at hl 1 rfl) ?_
    refine va_iast hx hb hK hP hD hS 8 0 rfl rfl (hm_ix0 hst c_6) dX3_step_22 (fun H locs hP hD hS => ?_)
    have hP : va_P D vwCl (wM K a (pM_FG s (upd (gM_FG s) (3 * (gM_st s)).toNatClampNeg n))) H := hP
    have hD : va_D A (wM K a (pM_FG s (upd (gM_FG s) (3 * (gM_st s)).toNatClampNeg n))) := hD
    refine lv_aload_n hx hb dX3_step_23 rfl (lv_at hl 0 rfl) ?_
    refine va_get (D := D) (ci := 2) (C := RX3) (T := TX3) (N := 21) hx hb hts hinX3 hown hK hP 0 rfl rfl 13 (by decide) k33 (fun _ h9 => h9) rfl dX3_step_24 ?_
    refine lv_iconst (v := 3) hx hb dX3_step_27 (by decide) ?_
    refine lv_aload_n hx hb dX3_step_28 rfl (lv_at hl 0 rfl) ?_
    refine va_get (D := D) (ci := 2) (C := RX3) (T := TX3) (N := 21) hx hb hts hinX3 hown hK hP 0 rfl rfl 12 (by decide) k221 (fun _ h9 => h9) rfl dX3_step_29 ?_
    refine lv_imul hx hb dX3_step_32 ?_
    refine lv_iconst (v := 1) hx hb dX3_step_33 (by decide) ?_
    refine lv_iadd hx hb dX3_step_34 ?_
    refine lv_iload_n hx hb dX3_step_35 rfl (lv_at hl 2 rfl) ?_
    refine va_iast hx hb hK hP hD hS 8 0 rfl rfl (hm_ix1 hst c_6) dX3_step_36 (fun H locs hP hD hS => ?_)
    have hP : va_P D vwCl (wM K a (pM_FG s (upd (upd (gM_FG s) (3 * (gM_st s)).toNatClampNeg n) ((3 * (gM_st s)) + 1).toNatClampNeg t))) H := hP
    have hD : va_D A (wM K a (pM_FG s (upd (upd (gM_FG s) (3 * (gM_st s)).toNatClampNeg n) ((3 * (gM_st s)) + 1).toNatClampNeg t))) := hD
    refine lv_aload_n hx hb dX3_step_37 rfl (lv_at hl 0 rfl) ?_
    refine va_get (D := D) (ci := 2) (C := RX3) (T := TX3) (N := 21) hx hb hts hinX3 hown hK hP 0 rfl rfl 13 (by decide) k33 (fun _ h9 => h9) rfl dX3_step_38 ?_
    refine lv_iconst (v := 3) hx hb dX3_step_41 (by decide) ?_
    refine lv_aload_n hx hb dX3_step_42 rfl (lv_at hl 0 rfl) ?_
    refine va_get (D := D) (ci := 2) (C := RX3) (T := TX3) (N := 21) hx hb hts hinX3 hown hK hP 0 rfl rfl 12 (by decide) k221 (fun _ h9 => h9) rfl dX3_step_43 ?_
    refine lv_imul hx hb dX3_step_46 ?_
    refine lv_iconst (v := 2) hx hb dX3_step_47 (by decide) ?_
    refine lv_iadd hx hb dX3_step_48 ?_
    refine lv_iload_n hx hb dX3_step_49 rfl (lv_at hl 3 rfl) ?_
    refine va_iast hx hb hK hP hD hS 8 0 rfl rfl (hm_ix2 hst c_6) dX3_step_50 (fun H locs hP hD hS => ?_)
    have hP : va_P D vwCl (wM K a (pM_FG s (upd (upd (upd (gM_FG s) (3 * (gM_st s)).toNatClampNeg n) ((3 * (gM_st s)) + 1).toNatClampNeg t) ((3 * (gM_st s)) + 2).toNatClampNeg u))) H := hP
    have hD : va_D A (wM K a (pM_FG s (upd (upd (upd (gM_FG s) (3 * (gM_st s)).toNatClampNeg n) ((3 * (gM_st s)) + 1).toNatClampNeg t) ((3 * (gM_st s)) + 2).toNatClampNeg u))) := hD
    refine lv_aload_n hx hb dX3_step_51 rfl (lv_at hl 0 rfl) ?_
    refine lv_dup hx hb dX3_step_52 rfl ?_
    refine va_get (D := D) (ci := 2) (C := RX3) (T := TX3) (N := 21) hx hb hts hinX3 hown hK hP 0 rfl rfl 12 (by decide) k221 (fun _ h9 => h9) rfl dX3_step_53 ?_
    refine lv_iconst (v := 1) hx hb dX3_step_56 (by decide) ?_
    refine lv_iadd hx hb dX3_step_57 ?_
    refine va_put (D := D) (ci := 2) (ty := .int) (C := RX3) (T := TX3) (N := 21) hx hb hts hinX3 tyX3 tyX3_ok nmX3 hown hK hP hD hS 0 rfl rfl 12 (by decide) k221 (fun _ h9 => h9) rfl (by decide +kernel) rfl rfl (Nat.le_of_ble_eq_true rfl) dX3_step_58 (fun H locs hP hD hS => ?_)
    have hP : va_P D vwCl (wM K a (pM_st (pM_FG s (upd (upd (upd (gM_FG s) (3 * (gM_st s)).toNatClampNeg n) ((3 * (gM_st s)) + 1).toNatClampNeg t) ((3 * (gM_st s)) + 2).toNatClampNeg u)) ((gM_st s) + 1))) H := hP
    have hD : va_D A (wM K a (pM_st (pM_FG s (upd (upd (upd (gM_FG s) (3 * (gM_st s)).toNatClampNeg n) ((3 * (gM_st s)) + 1).toNatClampNeg t) ((3 * (gM_st s)) + 2).toNatClampNeg u)) ((gM_st s) + 1))) := hD
    refine lv_aload_n hx hb dX3_step_61 rfl (lv_at hl 0 rfl) ?_
    refine va_get (D := D) (ci := 2) (C := RX3) (T := TX3) (N := 21) hx hb hts hinX3 hown hK hP 0 rfl rfl 12 (by decide) k221 (fun _ h9 => h9) rfl dX3_step_62 ?_
    exact rt_I hx hb hr hlk hK hP hD hS (pr_of (Eq.trans (if_neg c_6) (rfl))) dX3_step_65
  · refine lv_iconst (v := (-1)) hx hb dX3_step_9 (by decide) ?_
    exact rt_I hx hb hr hlk hK hP hD hS (pr_of (Eq.trans (if_pos c_6) (rfl))) dX3_step_10

def f_X3_danced (s : SM) (k : Int32) : Int32 := if k < 0 then ((-1)) else (if k ≤ 4 then (if k = 0 then (gM_en s) else ((gM_CG s) (k - 1).toNatClampNeg)) else ((-1)))
set_option maxHeartbeats 4000000 in
set_option maxRecDepth 100000 in
theorem c_X3_danced (l : Launch) (D : va_G) (K : ClassId × ClassId × ClassId) (a : Nat → Nat) (s : SM) (k : Int32)   : MetI l yX3_danced wsX3_danced { frames := 0, cells := 0, slots := 0, locals := 0 } D vwCl (tyK K) (wM K a) [.ref (a 0), .int k] s (f_X3_danced s k) s := by
  intro sz0
  refine en_W (cc := cX3_danced) (maxL := 2) (ret := (some .int)) (Qc := fun A => va_Qi (fun (x0 : Int32) (u0 : SM) => x0 = f_X3_danced s k ∧ u0 = s) (bs_a D vwCl (tyK K) (wM K a) A) A) (by decide) rfl (Nat.le_of_ble_eq_true rfl) ?_ sz0
  intro p e st m below meth c ls A hx hb hr hml hts hown hlk hA hK hP hD hS hl
  have hown : st.vm.findClass RX3 = some m.cls := hown
  have hl : lv_has ls 2 [(0, .ref (a 0)), (1, .int k)] := hl
  have hinX3 : ∀ w ∈ u_ws RX3 TX3 21, w ∈ wsX3_danced := fun w h => List.mem_cons_of_mem _ (List.mem_append_right _ h)
  have k36 := hts (.fieldLink RX3 36 "PuppetBarModel" "changed" "[I") (by decide +kernel)
  have k224 := hts (.fieldLink RX3 224 "PuppetBarModel" "endedAt" "I") (by decide +kernel)
  refine lv_iload_n hx hb dX3_danced_0 rfl (lv_at hl 1 rfl) ?_
  refine lv_if_lt (tgt := 9) hx hb dX3_danced_1 (by decide) (fun c_1 => ?_) (fun c_1 => ?_)
  · refine lv_iconst (v := (-1)) hx hb dX3_danced_9 (by decide) ?_
    refine lv_goto (tgt := 32) hx hb dX3_danced_10 (by decide) ?_
    exact rt_I hx hb hr hlk hK hP hD hS ⟨Eq.symm (Eq.trans (if_pos c_1) (rfl)), rfl⟩ dX3_danced_32
  · refine lv_iload_n hx hb dX3_danced_4 rfl (lv_at hl 1 rfl) ?_
    refine lv_iconst (v := 4) hx hb dX3_danced_5 (by decide) ?_
    refine lv_icmp_le (tgt := 13) hx hb dX3_danced_6 (by decide) (fun c_6 => ?_) (fun c_6 => ?_)
    · refine lv_iload_n hx hb dX3_danced_13 rfl (lv_at hl 1 rfl) ?_
      refine lv_if_ne (tgt := 24) hx hb dX3_danced_14 (by decide) (fun c_14 => ?_) (fun c_14 => ?_)
      · refine lv_aload_n hx hb dX3_danced_24 rfl (lv_at hl 0 rfl) ?_
        refine va_get (D := D) (ci := 2) (C := RX3) (T := TX3) (N := 21) hx hb hts hinX3 hown hK hP 0 rfl rfl 15 (by decide) k36 (fun _ h9 => h9) rfl dX3_danced_25 ?_
        refine lv_iload_n hx hb dX3_danced_28 rfl (lv_at hl 1 rfl) ?_
        refine lv_iconst (v := 1) hx hb dX3_danced_29 (by decide) ?_
        refine lv_isub hx hb dX3_danced_30 ?_
        refine va_iald hx hb hK hP 9 0 rfl rfl (hm_dn c_1 c_6 c_14) dX3_danced_31 ?_
        exact rt_I hx hb hr hlk hK hP hD hS ⟨Eq.symm (Eq.trans (if_neg c_1) (Eq.trans (if_pos c_6) (Eq.trans (if_neg c_14) (rfl)))), rfl⟩ dX3_danced_32
      · refine lv_aload_n hx hb dX3_danced_17 rfl (lv_at hl 0 rfl) ?_
        refine va_get (D := D) (ci := 2) (C := RX3) (T := TX3) (N := 21) hx hb hts hinX3 hown hK hP 0 rfl rfl 14 (by decide) k224 (fun _ h9 => h9) rfl dX3_danced_18 ?_
        refine lv_goto (tgt := 32) hx hb dX3_danced_21 (by decide) ?_
        exact rt_I hx hb hr hlk hK hP hD hS ⟨Eq.symm (Eq.trans (if_neg c_1) (Eq.trans (if_pos c_6) (Eq.trans (if_pos c_14) (rfl)))), rfl⟩ dX3_danced_32
    · refine lv_iconst (v := (-1)) hx hb dX3_danced_9 (by decide) ?_
      refine lv_goto (tgt := 32) hx hb dX3_danced_10 (by decide) ?_
      exact rt_I hx hb hr hlk hK hP hD hS ⟨Eq.symm (Eq.trans (if_neg c_1) (Eq.trans (if_neg c_6) (rfl))), rfl⟩ dX3_danced_32
