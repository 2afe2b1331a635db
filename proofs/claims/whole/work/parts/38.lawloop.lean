set_option maxHeartbeats 8000000 in
set_option maxRecDepth 100000 in
theorem law_loop {p : Program} {e : Env} {s : State} {m : MethodId} {below : List Frame} {meth : Method} {c : Code} (l : Launch) {b L : Nat} {xs : Nat → Int32} (hL : L ≤ 2560) (C0 : lw_At p s m meth c b L xs) {D : va_G} {K K2 : ClassId × ClassId × ClassId} {a b2 : Nat → Nat} (hK1 : va_K D vwCl (tyK K) s) (hK2 : va_K D vwCl (tyK K2) s) : ∀ (fu i : Nat) (ss : SB) (mm : SM) (H : Heap) (locs : List Loc) (ls : Array Slot), i ≤ L → L < i + fu → RR ss mm → va_P D vwCl (wM K2 b2 mm ++ wB K a ss) H → va_D (fun q : Nat => s.heap.size ≤ q) (wM K2 b2 mm ++ wB K a ss) → va_S (fun q : Nat => s.heap.size ≤ q) s.heap H locs → lv_has ls 4 [(0, .ref b), (1, .ref (a 0)), (2, .ref (b2 0)), (3, .int (nI i))] → W p l e room_1 s m #[Value.ref b] below meth c H locs 29 442 (lw_Z below #[Value.ref b] s) (F0 m 18 ls []) := by
  obtain ⟨hx, hb, hr, hml, hown, hts, hX, hbl, hlocks, hgv⟩ := id C0
  have hown : s.vm.findClass RL = some m.cls := hown
  have hA : ∀ q : Nat, s.heap.size ≤ q → (fun q : Nat => s.heap.size ≤ q) q := fun _ h => h
  have hbA : ¬ (fun q : Nat => s.heap.size ≤ q) b := Nat.not_le.mpr hbl
  have k13 := hts (.constantLong RL 13 (4294967295)) (by decide +kernel)
  have hw_X2_set : ∀ w ∈ wsV RL 15 RX2 yX2_set wsX2_set, w.before #[Value.ref b] s = true := fun w h => hts w (tn_X2_set w h)
  have hw_X3_set : ∀ w ∈ wsV RL 19 RX3 yX3_set wsX3_set, w.before #[Value.ref b] s = true := fun w h => hts w (tn_X3_set w h)
  have hw_X2_get : ∀ w ∈ wsV RL 20 RX2 yX2_get wsX2_get, w.before #[Value.ref b] s = true := fun w h => hts w (tn_X2_get w h)
  have hw_X3_get : ∀ w ∈ wsV RL 24 RX3 yX3_get wsX3_get, w.before #[Value.ref b] s = true := fun w h => hts w (tn_X3_get w h)
  have hw_X2_refused : ∀ w ∈ wsV RL 25 RX2 yX2_refused wsX2_refused, w.before #[Value.ref b] s = true := fun w h => hts w (tn_X2_refused w h)
  have hw_X3_refused : ∀ w ∈ wsV RL 29 RX3 yX3_refused wsX3_refused, w.before #[Value.ref b] s = true := fun w h => hts w (tn_X3_refused w h)
  have hw_X2_cut : ∀ w ∈ wsV RL 30 RX2 yX2_cut wsX2_cut, w.before #[Value.ref b] s = true := fun w h => hts w (tn_X2_cut w h)
  have hw_X3_cut : ∀ w ∈ wsV RL 34 RX3 yX3_cut wsX3_cut, w.before #[Value.ref b] s = true := fun w h => hts w (tn_X3_cut w h)
  have hw_X2_string : ∀ w ∈ wsV RL 35 RX2 yX2_string wsX2_string, w.before #[Value.ref b] s = true := fun w h => hts w (tn_X2_string w h)
  have hw_X3_string : ∀ w ∈ wsV RL 38 RX3 yX3_string wsX3_string, w.before #[Value.ref b] s = true := fun w h => hts w (tn_X3_string w h)
  have hw_X2_move : ∀ w ∈ wsV RL 39 RX2 yX2_move wsX2_move, w.before #[Value.ref b] s = true := fun w h => hts w (tn_X2_move w h)
  have hw_X3_move : ∀ w ∈ wsV RL 43 RX3 yX3_move wsX3_move, w.before #[Value.ref b] s = true := fun w h => hts w (tn_X3_move w h)
  have hw_X2_step : ∀ w ∈ wsV RL 44 RX2 yX2_step wsX2_step, w.before #[Value.ref b] s = true := fun w h => hts w (tn_X2_step w h)
  have hw_X3_step : ∀ w ∈ wsV RL 47 RX3 yX3_step wsX3_step, w.before #[Value.ref b] s = true := fun w h => hts w (tn_X3_step w h)
  have hw_X2_forget : ∀ w ∈ wsV RL 48 RX2 yX2_forget wsX2_forget, w.before #[Value.ref b] s = true := fun w h => hts w (tn_X2_forget w h)
  have hw_X3_forget : ∀ w ∈ wsV RL 51 RX3 yX3_forget wsX3_forget, w.before #[Value.ref b] s = true := fun w h => hts w (tn_X3_forget w h)
  have hw_X2_dance : ∀ w ∈ wsV RL 52 RX2 yX2_dance wsX2_dance, w.before #[Value.ref b] s = true := fun w h => hts w (tn_X2_dance w h)
  have hw_X3_dance : ∀ w ∈ wsV RL 55 RX3 yX3_dance wsX3_dance, w.before #[Value.ref b] s = true := fun w h => hts w (tn_X3_dance w h)
  have hw_X2_danced : ∀ w ∈ wsV RL 56 RX2 yX2_danced wsX2_danced, w.before #[Value.ref b] s = true := fun w h => hts w (tn_X2_danced w h)
  have hw_X3_danced : ∀ w ∈ wsV RL 59 RX3 yX3_danced wsX3_danced, w.before #[Value.ref b] s = true := fun w h => hts w (tn_X3_danced w h)
  have hw_X2_bar : ∀ w ∈ wsV RL 60 RX2 yX2_bar wsX2_bar, w.before #[Value.ref b] s = true := fun w h => hts w (tn_X2_bar w h)
  have hw_X3_bar : ∀ w ∈ wsV RL 64 RX3 yX3_bar wsX3_bar, w.before #[Value.ref b] s = true := fun w h => hts w (tn_X3_bar w h)
  have hw_X2_order : ∀ w ∈ wsV RL 65 RX2 yX2_order wsX2_order, w.before #[Value.ref b] s = true := fun w h => hts w (tn_X2_order w h)
  have hw_X3_order : ∀ w ∈ wsV RL 68 RX3 yX3_order wsX3_order, w.before #[Value.ref b] s = true := fun w h => hts w (tn_X3_order w h)
  intro fu
  induction fu with
  | zero =>
    intro i ss mm H locs ls hi hf
    exfalso
    omega
  | succ fu ih =>
    intro i ss mm H locs ls hi hf hRR hP hD hS hl
    refine lv_iload_n hx hb dL_law_18 rfl (lv_at hl 3 rfl) ?_
    refine lv_aload_n hx hb dL_law_19 rfl (lv_at hl 0 rfl) ?_
    refine va_slen hx hb hX hbl hbA hS dL_law_20 ?_
    refine lv_iconst (v := 5) hx hb dL_law_21 (by decide) ?_
    refine lv_isub hx hb dL_law_22 ?_
    refine lv_icmp_gt (tgt := 460) hx hb dL_law_23 (by decide) (fun _ => ?_) (fun c0 => ?_)
    · refine lv_iconst (v := 1) hx hb dL_law_460 (by decide) ?_
      exact va_forget hS.2.2 (lw_ret hx hb hr hlocks dL_law_461)
    have h5 : i + 5 ≤ L := lc_in hL hi c0
    refine lv_aload_n hx hb dL_law_26 rfl (lv_at hl 0 rfl) ?_
    refine lv_iload_n hx hb dL_law_27 rfl (lv_at hl 3 rfl) ?_
    refine va_sld hx hb hX hbl hbA hS (nI_in (by omega) (by omega)) dL_law_28 ?_
    refine lv_bipush (v := 15) hx hb dL_law_29 (by decide) ?_
    refine lv_iand hx hb dL_law_31 ?_
    generalize xs (nI i).toNatClampNeg &&& 15 = op
    by_cases c_0 : op = 0
    · refine lv_tableIn (tgt := 96) (off := 64) hx hb dL_law_32 (by rw [c_0]; decide) (by rw [c_0]; decide) (by rw [c_0]; rfl) (by decide) ?_
      refine lv_aload_n hx hb dL_law_96 rfl (lv_at hl 1 rfl) ?_
      refine lv_aload_n hx hb dL_law_97 rfl (lv_at hl 0 rfl) ?_
      refine lv_iload_n hx hb dL_law_98 rfl (lv_at hl 3 rfl) ?_
      refine lv_iconst (v := 1) hx hb dL_law_99 (by decide) ?_
      refine lv_iadd hx hb dL_law_100 ?_
      refine va_sld hx hb hX hbl hbA hS (lc_ix (k := 1) hL h5 (by decide)) dL_law_101 ?_
      refine lv_aload_n hx hb dL_law_102 rfl (lv_at hl 0 rfl) ?_
      refine lv_iload_n hx hb dL_law_103 rfl (lv_at hl 3 rfl) ?_
      refine lv_iconst (v := 2) hx hb dL_law_104 (by decide) ?_
      refine lv_iadd hx hb dL_law_105 ?_
      refine va_sld hx hb hX hbl hbA hS (lc_ix (k := 2) hL h5 (by decide)) dL_law_106 ?_
      refine lv_aload_n hx hb dL_law_107 rfl (lv_at hl 0 rfl) ?_
      refine lv_iload_n hx hb dL_law_108 rfl (lv_at hl 3 rfl) ?_
      refine lv_iconst (v := 3) hx hb dL_law_109 (by decide) ?_
      refine lv_iadd hx hb dL_law_110 ?_
      refine va_sld hx hb hX hbl hbA hS (lc_ix (k := 3) hL h5 (by decide)) dL_law_111 ?_
      refine lv_i2l hx hb dL_law_112 rfl ?_
      refine lv_bipush (v := 32) hx hb dL_law_113 (by decide) ?_
      refine lv_lshl hx hb dL_law_115 rfl ?_
      refine lv_aload_n hx hb dL_law_116 rfl (lv_at hl 0 rfl) ?_
      refine lv_iload_n hx hb dL_law_117 rfl (lv_at hl 3 rfl) ?_
      refine lv_iconst (v := 4) hx hb dL_law_118 (by decide) ?_
      refine lv_iadd hx hb dL_law_119 ?_
      refine va_sld hx hb hX hbl hbA hS (lc_ix (k := 4) hL h5 (by decide)) dL_law_120 ?_
      refine lv_i2l hx hb dL_law_121 rfl ?_
      refine lv_ldc2 hx hb hown k13 dL_law_122 ?_
      refine lv_land hx hb dL_law_125 ?_
      refine lv_lor hx hb dL_law_126 ?_
      refine lb_I (c_X2_set l D K a _ _ _ _ ) ⟨hx, hb, hml, hown, hw_X2_set⟩ (cwV 3 hw_X2_set tg_X2_set rfl rfl rfl (by decide +kernel) ⟨(Nat.le_of_ble_eq_true rfl), (Nat.le_of_ble_eq_true rfl)⟩) hK1 hP hD hS hA rfl hl.1 rfl (Nat.le_of_ble_eq_true rfl) (Nat.le_of_ble_eq_true rfl) (Nat.le_of_ble_eq_true rfl) dL_law_127 (fun H locs hP hD hS => ?_)
      refine lv_aload_n hx hb dL_law_130 rfl (lv_at hl 2 rfl) ?_
      refine lv_aload_n hx hb dL_law_131 rfl (lv_at hl 0 rfl) ?_
      refine lv_iload_n hx hb dL_law_132 rfl (lv_at hl 3 rfl) ?_
      refine lv_iconst (v := 1) hx hb dL_law_133 (by decide) ?_
      refine lv_iadd hx hb dL_law_134 ?_
      refine va_sld hx hb hX hbl hbA hS (lc_ix (k := 1) hL h5 (by decide)) dL_law_135 ?_
      refine lv_aload_n hx hb dL_law_136 rfl (lv_at hl 0 rfl) ?_
      refine lv_iload_n hx hb dL_law_137 rfl (lv_at hl 3 rfl) ?_
      refine lv_iconst (v := 2) hx hb dL_law_138 (by decide) ?_
      refine lv_iadd hx hb dL_law_139 ?_
      refine va_sld hx hb hX hbl hbA hS (lc_ix (k := 2) hL h5 (by decide)) dL_law_140 ?_
      refine lv_aload_n hx hb dL_law_141 rfl (lv_at hl 0 rfl) ?_
      refine lv_iload_n hx hb dL_law_142 rfl (lv_at hl 3 rfl) ?_
      refine lv_iconst (v := 3) hx hb dL_law_143 (by decide) ?_
      refine lv_iadd hx hb dL_law_144 ?_
      refine va_sld hx hb hX hbl hbA hS (lc_ix (k := 3) hL h5 (by decide)) dL_law_145 ?_
      refine lv_i2l hx hb dL_law_146 rfl ?_
      refine lv_bipush (v := 32) hx hb dL_law_147 (by decide) ?_
      refine lv_lshl hx hb dL_law_149 rfl ?_
      refine lv_aload_n hx hb dL_law_150 rfl (lv_at hl 0 rfl) ?_
      refine lv_iload_n hx hb dL_law_151 rfl (lv_at hl 3 rfl) ?_
      refine lv_iconst (v := 4) hx hb dL_law_152 (by decide) ?_
      refine lv_iadd hx hb dL_law_153 ?_
      refine va_sld hx hb hX hbl hbA hS (lc_ix (k := 4) hL h5 (by decide)) dL_law_154 ?_
      refine lv_i2l hx hb dL_law_155 rfl ?_
      refine lv_ldc2 hx hb hown k13 dL_law_156 ?_
      refine lv_land hx hb dL_law_159 ?_
      refine lv_lor hx hb dL_law_160 ?_
      refine lm_I (c_X3_set l D K2 b2 _ _ _ _ ) ⟨hx, hb, hml, hown, hw_X3_set⟩ (cwV 3 hw_X3_set tg_X3_set rfl rfl rfl (by decide +kernel) ⟨(Nat.le_of_ble_eq_true rfl), (Nat.le_of_ble_eq_true rfl)⟩) hK2 hP hD hS hA rfl hl.1 rfl (Nat.le_of_ble_eq_true rfl) (Nat.le_of_ble_eq_true rfl) (Nat.le_of_ble_eq_true rfl) dL_law_161 (fun H locs hP hD hS => ?_)
      refine lv_icmp_eq (tgt := 454) hx hb dL_law_164 (by decide) (fun _ => ?_) (fun cx => absurd (q_set hRR _ _ _).1 cx)
      refine lv_iinc (v := nI (i + 5)) (lv' := [(3, .int (nI (i + 5))), (0, .ref b), (1, .ref (a 0)), (2, .ref (b2 0))]) hx hb dL_law_454 hl (k := 3) rfl (show nI i + nI 5 = nI (i + 5) from nI_add i 5) (by decide) rfl (fun ls hl => ?_)
      refine lv_goto (tgt := 18) hx hb dL_law_457 (by decide) ?_
      exact ih (i + 5) _ _ _ _ _ h5 (by omega) (q_set hRR _ _ _).2 hP hD hS (lv_sub hl [1, 2, 3, 0] rfl)
    by_cases c_1 : op = 1
    · refine lv_tableIn (tgt := 169) (off := 137) hx hb dL_law_32 (by rw [c_1]; decide) (by rw [c_1]; decide) (by rw [c_1]; rfl) (by decide) ?_
      refine lv_aload_n hx hb dL_law_169 rfl (lv_at hl 1 rfl) ?_
      refine lv_aload_n hx hb dL_law_170 rfl (lv_at hl 0 rfl) ?_
      refine lv_iload_n hx hb dL_law_171 rfl (lv_at hl 3 rfl) ?_
      refine lv_iconst (v := 1) hx hb dL_law_172 (by decide) ?_
      refine lv_iadd hx hb dL_law_173 ?_
      refine va_sld hx hb hX hbl hbA hS (lc_ix (k := 1) hL h5 (by decide)) dL_law_174 ?_
      refine lv_aload_n hx hb dL_law_175 rfl (lv_at hl 0 rfl) ?_
      refine lv_iload_n hx hb dL_law_176 rfl (lv_at hl 3 rfl) ?_
      refine lv_iconst (v := 2) hx hb dL_law_177 (by decide) ?_
      refine lv_iadd hx hb dL_law_178 ?_
      refine va_sld hx hb hX hbl hbA hS (lc_ix (k := 2) hL h5 (by decide)) dL_law_179 ?_
      refine lb_L (c_X2_get l D K a _ _ _ ) ⟨hx, hb, hml, hown, hw_X2_get⟩ (cwV 2 hw_X2_get tg_X2_get rfl rfl rfl (by decide +kernel) ⟨(Nat.le_of_ble_eq_true rfl), (Nat.le_of_ble_eq_true rfl)⟩) hK1 hP hD hS hA rfl hl.1 rfl (Nat.le_of_ble_eq_true rfl) (Nat.le_of_ble_eq_true rfl) (Nat.le_of_ble_eq_true rfl) dL_law_180 (fun H locs hP hD hS => ?_)
      refine lv_aload_n hx hb dL_law_183 rfl (lv_at hl 2 rfl) ?_
      refine lv_aload_n hx hb dL_law_184 rfl (lv_at hl 0 rfl) ?_
      refine lv_iload_n hx hb dL_law_185 rfl (lv_at hl 3 rfl) ?_
      refine lv_iconst (v := 1) hx hb dL_law_186 (by decide) ?_
      refine lv_iadd hx hb dL_law_187 ?_
      refine va_sld hx hb hX hbl hbA hS (lc_ix (k := 1) hL h5 (by decide)) dL_law_188 ?_
      refine lv_aload_n hx hb dL_law_189 rfl (lv_at hl 0 rfl) ?_
      refine lv_iload_n hx hb dL_law_190 rfl (lv_at hl 3 rfl) ?_
      refine lv_iconst (v := 2) hx hb dL_law_191 (by decide) ?_
      refine lv_iadd hx hb dL_law_192 ?_
      refine va_sld hx hb hX hbl hbA hS (lc_ix (k := 2) hL h5 (by decide)) dL_law_193 ?_
      refine lm_L (c_X3_get l D K2 b2 _ _ _ ) ⟨hx, hb, hml, hown, hw_X3_get⟩ (cwV 2 hw_X3_get tg_X3_get rfl rfl rfl (by decide +kernel) ⟨(Nat.le_of_ble_eq_true rfl), (Nat.le_of_ble_eq_true rfl)⟩) hK2 hP hD hS hA rfl hl.1 rfl (Nat.le_of_ble_eq_true rfl) (Nat.le_of_ble_eq_true rfl) (Nat.le_of_ble_eq_true rfl) dL_law_194 (fun H locs hP hD hS => ?_)
      refine W.lcmp hx hb dL_law_197 ?_
      refine lv_if_eq (tgt := 454) hx hb dL_law_198 (by decide) (fun _ => ?_) (fun cx => absurd ((lg_cmp_eq _ _).mpr (q_get hRR _ _).1) cx)
      refine lv_iinc (v := nI (i + 5)) (lv' := [(3, .int (nI (i + 5))), (0, .ref b), (1, .ref (a 0)), (2, .ref (b2 0))]) hx hb dL_law_454 hl (k := 3) rfl (show nI i + nI 5 = nI (i + 5) from nI_add i 5) (by decide) rfl (fun ls hl => ?_)
      refine lv_goto (tgt := 18) hx hb dL_law_457 (by decide) ?_
      exact ih (i + 5) _ _ _ _ _ h5 (by omega) (q_get hRR _ _).2 hP hD hS (lv_sub hl [1, 2, 3, 0] rfl)
    by_cases c_2 : op = 2
    · refine lv_tableIn (tgt := 203) (off := 171) hx hb dL_law_32 (by rw [c_2]; decide) (by rw [c_2]; decide) (by rw [c_2]; rfl) (by decide) ?_
      refine lv_aload_n hx hb dL_law_203 rfl (lv_at hl 1 rfl) ?_
      refine lb_I (c_X2_refused l D K a _  ) ⟨hx, hb, hml, hown, hw_X2_refused⟩ (cwV 0 hw_X2_refused tg_X2_refused rfl rfl rfl (by decide +kernel) ⟨(Nat.le_of_ble_eq_true rfl), (Nat.le_of_ble_eq_true rfl)⟩) hK1 hP hD hS hA rfl hl.1 rfl (Nat.le_of_ble_eq_true rfl) (Nat.le_of_ble_eq_true rfl) (Nat.le_of_ble_eq_true rfl) dL_law_204 (fun H locs hP hD hS => ?_)
      refine lv_aload_n hx hb dL_law_207 rfl (lv_at hl 2 rfl) ?_
      refine lm_I (c_X3_refused l D K2 b2 _  ) ⟨hx, hb, hml, hown, hw_X3_refused⟩ (cwV 0 hw_X3_refused tg_X3_refused rfl rfl rfl (by decide +kernel) ⟨(Nat.le_of_ble_eq_true rfl), (Nat.le_of_ble_eq_true rfl)⟩) hK2 hP hD hS hA rfl hl.1 rfl (Nat.le_of_ble_eq_true rfl) (Nat.le_of_ble_eq_true rfl) (Nat.le_of_ble_eq_true rfl) dL_law_208 (fun H locs hP hD hS => ?_)
      refine lv_icmp_eq (tgt := 454) hx hb dL_law_211 (by decide) (fun _ => ?_) (fun cx => absurd (q_refused hRR) cx)
      refine lv_iinc (v := nI (i + 5)) (lv' := [(3, .int (nI (i + 5))), (0, .ref b), (1, .ref (a 0)), (2, .ref (b2 0))]) hx hb dL_law_454 hl (k := 3) rfl (show nI i + nI 5 = nI (i + 5) from nI_add i 5) (by decide) rfl (fun ls hl => ?_)
      refine lv_goto (tgt := 18) hx hb dL_law_457 (by decide) ?_
      exact ih (i + 5) _ _ _ _ _ h5 (by omega) hRR hP hD hS (lv_sub hl [1, 2, 3, 0] rfl)
    by_cases c_3 : op = 3
    · refine lv_tableIn (tgt := 216) (off := 184) hx hb dL_law_32 (by rw [c_3]; decide) (by rw [c_3]; decide) (by rw [c_3]; rfl) (by decide) ?_
      refine lv_aload_n hx hb dL_law_216 rfl (lv_at hl 1 rfl) ?_
      refine lv_aload_n hx hb dL_law_217 rfl (lv_at hl 0 rfl) ?_
      refine lv_iload_n hx hb dL_law_218 rfl (lv_at hl 3 rfl) ?_
      refine lv_iconst (v := 1) hx hb dL_law_219 (by decide) ?_
      refine lv_iadd hx hb dL_law_220 ?_
      refine va_sld hx hb hX hbl hbA hS (lc_ix (k := 1) hL h5 (by decide)) dL_law_221 ?_
      refine lb_I (c_X2_cut l D K a _ _ ) ⟨hx, hb, hml, hown, hw_X2_cut⟩ (cwV 1 hw_X2_cut tg_X2_cut rfl rfl rfl (by decide +kernel) ⟨(Nat.le_of_ble_eq_true rfl), (Nat.le_of_ble_eq_true rfl)⟩) hK1 hP hD hS hA rfl hl.1 rfl (Nat.le_of_ble_eq_true rfl) (Nat.le_of_ble_eq_true rfl) (Nat.le_of_ble_eq_true rfl) dL_law_222 (fun H locs hP hD hS => ?_)
      refine lv_aload_n hx hb dL_law_225 rfl (lv_at hl 2 rfl) ?_
      refine lv_aload_n hx hb dL_law_226 rfl (lv_at hl 0 rfl) ?_
      refine lv_iload_n hx hb dL_law_227 rfl (lv_at hl 3 rfl) ?_
      refine lv_iconst (v := 1) hx hb dL_law_228 (by decide) ?_
      refine lv_iadd hx hb dL_law_229 ?_
      refine va_sld hx hb hX hbl hbA hS (lc_ix (k := 1) hL h5 (by decide)) dL_law_230 ?_
      refine lm_I (c_X3_cut l D K2 b2 _ _ ) ⟨hx, hb, hml, hown, hw_X3_cut⟩ (cwV 1 hw_X3_cut tg_X3_cut rfl rfl rfl (by decide +kernel) ⟨(Nat.le_of_ble_eq_true rfl), (Nat.le_of_ble_eq_true rfl)⟩) hK2 hP hD hS hA rfl hl.1 rfl (Nat.le_of_ble_eq_true rfl) (Nat.le_of_ble_eq_true rfl) (Nat.le_of_ble_eq_true rfl) dL_law_231 (fun H locs hP hD hS => ?_)
      refine lv_icmp_eq (tgt := 454) hx hb dL_law_234 (by decide) (fun _ => ?_) (fun cx => absurd (q_cut hRR _).1 cx)
      refine lv_iinc (v := nI (i + 5)) (lv' := [(3, .int (nI (i + 5))), (0, .ref b), (1, .ref (a 0)), (2, .ref (b2 0))]) hx hb dL_law_454 hl (k := 3) rfl (show nI i + nI 5 = nI (i + 5) from nI_add i 5) (by decide) rfl (fun ls hl => ?_)
      refine lv_goto (tgt := 18) hx hb dL_law_457 (by decide) ?_
      exact ih (i + 5) _ _ _ _ _ h5 (by omega) (q_cut hRR _).2 hP hD hS (lv_sub hl [1, 2, 3, 0] rfl)
    by_cases c_4 : op = 4
    · refine lv_tableIn (tgt := 239) (off := 207) hx hb dL_law_32 (by rw [c_4]; decide) (by rw [c_4]; decide) (by rw [c_4]; rfl) (by decide) ?_
      refine lv_aload_n hx hb dL_law_239 rfl (lv_at hl 1 rfl) ?_
      refine lv_aload_n hx hb dL_law_240 rfl (lv_at hl 0 rfl) ?_
      refine lv_iload_n hx hb dL_law_241 rfl (lv_at hl 3 rfl) ?_
      refine lv_iconst (v := 1) hx hb dL_law_242 (by decide) ?_
      refine lv_iadd hx hb dL_law_243 ?_
      refine va_sld hx hb hX hbl hbA hS (lc_ix (k := 1) hL h5 (by decide)) dL_law_244 ?_
      refine lb_I (c_X2_string l D K a _ _ ) ⟨hx, hb, hml, hown, hw_X2_string⟩ (cwV 1 hw_X2_string tg_X2_string rfl rfl rfl (by decide +kernel) ⟨(Nat.le_of_ble_eq_true rfl), (Nat.le_of_ble_eq_true rfl)⟩) hK1 hP hD hS hA rfl hl.1 rfl (Nat.le_of_ble_eq_true rfl) (Nat.le_of_ble_eq_true rfl) (Nat.le_of_ble_eq_true rfl) dL_law_245 (fun H locs hP hD hS => ?_)
      refine lv_aload_n hx hb dL_law_248 rfl (lv_at hl 2 rfl) ?_
      refine lv_aload_n hx hb dL_law_249 rfl (lv_at hl 0 rfl) ?_
      refine lv_iload_n hx hb dL_law_250 rfl (lv_at hl 3 rfl) ?_
      refine lv_iconst (v := 1) hx hb dL_law_251 (by decide) ?_
      refine lv_iadd hx hb dL_law_252 ?_
      refine va_sld hx hb hX hbl hbA hS (lc_ix (k := 1) hL h5 (by decide)) dL_law_253 ?_
      refine lm_I (c_X3_string l D K2 b2 _ _ ) ⟨hx, hb, hml, hown, hw_X3_string⟩ (cwV 1 hw_X3_string tg_X3_string rfl rfl rfl (by decide +kernel) ⟨(Nat.le_of_ble_eq_true rfl), (Nat.le_of_ble_eq_true rfl)⟩) hK2 hP hD hS hA rfl hl.1 rfl (Nat.le_of_ble_eq_true rfl) (Nat.le_of_ble_eq_true rfl) (Nat.le_of_ble_eq_true rfl) dL_law_254 (fun H locs hP hD hS => ?_)
      refine lv_icmp_eq (tgt := 454) hx hb dL_law_257 (by decide) (fun _ => ?_) (fun cx => absurd (q_string hRR _).1 cx)
      refine lv_iinc (v := nI (i + 5)) (lv' := [(3, .int (nI (i + 5))), (0, .ref b), (1, .ref (a 0)), (2, .ref (b2 0))]) hx hb dL_law_454 hl (k := 3) rfl (show nI i + nI 5 = nI (i + 5) from nI_add i 5) (by decide) rfl (fun ls hl => ?_)
      refine lv_goto (tgt := 18) hx hb dL_law_457 (by decide) ?_
      exact ih (i + 5) _ _ _ _ _ h5 (by omega) (q_string hRR _).2 hP hD hS (lv_sub hl [1, 2, 3, 0] rfl)
    by_cases c_5 : op = 5
    · refine lv_tableIn (tgt := 262) (off := 230) hx hb dL_law_32 (by rw [c_5]; decide) (by rw [c_5]; decide) (by rw [c_5]; rfl) (by decide) ?_
      refine lv_aload_n hx hb dL_law_262 rfl (lv_at hl 1 rfl) ?_
      refine lv_aload_n hx hb dL_law_263 rfl (lv_at hl 0 rfl) ?_
      refine lv_iload_n hx hb dL_law_264 rfl (lv_at hl 3 rfl) ?_
      refine lv_iconst (v := 1) hx hb dL_law_265 (by decide) ?_
      refine lv_iadd hx hb dL_law_266 ?_
      refine va_sld hx hb hX hbl hbA hS (lc_ix (k := 1) hL h5 (by decide)) dL_law_267 ?_
      refine lv_aload_n hx hb dL_law_268 rfl (lv_at hl 0 rfl) ?_
      refine lv_iload_n hx hb dL_law_269 rfl (lv_at hl 3 rfl) ?_
      refine lv_iconst (v := 2) hx hb dL_law_270 (by decide) ?_
      refine lv_iadd hx hb dL_law_271 ?_
      refine va_sld hx hb hX hbl hbA hS (lc_ix (k := 2) hL h5 (by decide)) dL_law_272 ?_
      refine lv_aload_n hx hb dL_law_273 rfl (lv_at hl 0 rfl) ?_
      refine lv_iload_n hx hb dL_law_274 rfl (lv_at hl 3 rfl) ?_
      refine lv_iconst (v := 3) hx hb dL_law_275 (by decide) ?_
      refine lv_iadd hx hb dL_law_276 ?_
      refine va_sld hx hb hX hbl hbA hS (lc_ix (k := 3) hL h5 (by decide)) dL_law_277 ?_
      refine lb_I (c_X2_move l D K a _ _ _ _ ) ⟨hx, hb, hml, hown, hw_X2_move⟩ (cwV 3 hw_X2_move tg_X2_move rfl rfl rfl (by decide +kernel) ⟨(Nat.le_of_ble_eq_true rfl), (Nat.le_of_ble_eq_true rfl)⟩) hK1 hP hD hS hA rfl hl.1 rfl (Nat.le_of_ble_eq_true rfl) (Nat.le_of_ble_eq_true rfl) (Nat.le_of_ble_eq_true rfl) dL_law_278 (fun H locs hP hD hS => ?_)
      refine lv_aload_n hx hb dL_law_281 rfl (lv_at hl 2 rfl) ?_
      refine lv_aload_n hx hb dL_law_282 rfl (lv_at hl 0 rfl) ?_
      refine lv_iload_n hx hb dL_law_283 rfl (lv_at hl 3 rfl) ?_
      refine lv_iconst (v := 1) hx hb dL_law_284 (by decide) ?_
      refine lv_iadd hx hb dL_law_285 ?_
      refine va_sld hx hb hX hbl hbA hS (lc_ix (k := 1) hL h5 (by decide)) dL_law_286 ?_
      refine lv_aload_n hx hb dL_law_287 rfl (lv_at hl 0 rfl) ?_
      refine lv_iload_n hx hb dL_law_288 rfl (lv_at hl 3 rfl) ?_
      refine lv_iconst (v := 2) hx hb dL_law_289 (by decide) ?_
      refine lv_iadd hx hb dL_law_290 ?_
      refine va_sld hx hb hX hbl hbA hS (lc_ix (k := 2) hL h5 (by decide)) dL_law_291 ?_
      refine lv_aload_n hx hb dL_law_292 rfl (lv_at hl 0 rfl) ?_
      refine lv_iload_n hx hb dL_law_293 rfl (lv_at hl 3 rfl) ?_
      refine lv_iconst (v := 3) hx hb dL_law_294 (by decide) ?_
      refine lv_iadd hx hb dL_law_295 ?_
      refine va_sld hx hb hX hbl hbA hS (lc_ix (k := 3) hL h5 (by decide)) dL_law_296 ?_
      refine lm_I (c_X3_move l D K2 b2 _ _ _ _ ) ⟨hx, hb, hml, hown, hw_X3_move⟩ (cwV 3 hw_X3_move tg_X3_move rfl rfl rfl (by decide +kernel) ⟨(Nat.le_of_ble_eq_true rfl), (Nat.le_of_ble_eq_true rfl)⟩) hK2 hP hD hS hA rfl hl.1 rfl (Nat.le_of_ble_eq_true rfl) (Nat.le_of_ble_eq_true rfl) (Nat.le_of_ble_eq_true rfl) dL_law_297 (fun H locs hP hD hS => ?_)
      refine lv_icmp_eq (tgt := 454) hx hb dL_law_300 (by decide) (fun _ => ?_) (fun cx => absurd (q_move hRR _ _ _).1 cx)
      refine lv_iinc (v := nI (i + 5)) (lv' := [(3, .int (nI (i + 5))), (0, .ref b), (1, .ref (a 0)), (2, .ref (b2 0))]) hx hb dL_law_454 hl (k := 3) rfl (show nI i + nI 5 = nI (i + 5) from nI_add i 5) (by decide) rfl (fun ls hl => ?_)
      refine lv_goto (tgt := 18) hx hb dL_law_457 (by decide) ?_
      exact ih (i + 5) _ _ _ _ _ h5 (by omega) (q_move hRR _ _ _).2 hP hD hS (lv_sub hl [1, 2, 3, 0] rfl)
    by_cases c_6 : op = 6
    · refine lv_tableIn (tgt := 305) (off := 273) hx hb dL_law_32 (by rw [c_6]; decide) (by rw [c_6]; decide) (by rw [c_6]; rfl) (by decide) ?_
      refine lv_aload_n hx hb dL_law_305 rfl (lv_at hl 1 rfl) ?_
      refine lv_aload_n hx hb dL_law_306 rfl (lv_at hl 0 rfl) ?_
      refine lv_iload_n hx hb dL_law_307 rfl (lv_at hl 3 rfl) ?_
      refine lv_iconst (v := 1) hx hb dL_law_308 (by decide) ?_
      refine lv_iadd hx hb dL_law_309 ?_
      refine va_sld hx hb hX hbl hbA hS (lc_ix (k := 1) hL h5 (by decide)) dL_law_310 ?_
      refine lv_aload_n hx hb dL_law_311 rfl (lv_at hl 0 rfl) ?_
      refine lv_iload_n hx hb dL_law_312 rfl (lv_at hl 3 rfl) ?_
      refine lv_iconst (v := 2) hx hb dL_law_313 (by decide) ?_
      refine lv_iadd hx hb dL_law_314 ?_
      refine va_sld hx hb hX hbl hbA hS (lc_ix (k := 2) hL h5 (by decide)) dL_law_315 ?_
      refine lv_aload_n hx hb dL_law_316 rfl (lv_at hl 0 rfl) ?_
      refine lv_iload_n hx hb dL_law_317 rfl (lv_at hl 3 rfl) ?_
      refine lv_iconst (v := 3) hx hb dL_law_318 (by decide) ?_
      refine lv_iadd hx hb dL_law_319 ?_
      refine va_sld hx hb hX hbl hbA hS (lc_ix (k := 3) hL h5 (by decide)) dL_law_320 ?_
      refine lb_I (c_X2_step l D K a _ _ _ _ ) ⟨hx, hb, hml, hown, hw_X2_step⟩ (cwV 3 hw_X2_step tg_X2_step rfl rfl rfl (by decide +kernel) ⟨(Nat.le_of_ble_eq_true rfl), (Nat.le_of_ble_eq_true rfl)⟩) hK1 hP hD hS hA rfl hl.1 rfl (Nat.le_of_ble_eq_true rfl) (Nat.le_of_ble_eq_true rfl) (Nat.le_of_ble_eq_true rfl) dL_law_321 (fun H locs hP hD hS => ?_)
      refine lv_aload_n hx hb dL_law_324 rfl (lv_at hl 2 rfl) ?_
      refine lv_aload_n hx hb dL_law_325 rfl (lv_at hl 0 rfl) ?_
      refine lv_iload_n hx hb dL_law_326 rfl (lv_at hl 3 rfl) ?_
      refine lv_iconst (v := 1) hx hb dL_law_327 (by decide) ?_
      refine lv_iadd hx hb dL_law_328 ?_
      refine va_sld hx hb hX hbl hbA hS (lc_ix (k := 1) hL h5 (by decide)) dL_law_329 ?_
      refine lv_aload_n hx hb dL_law_330 rfl (lv_at hl 0 rfl) ?_
      refine lv_iload_n hx hb dL_law_331 rfl (lv_at hl 3 rfl) ?_
      refine lv_iconst (v := 2) hx hb dL_law_332 (by decide) ?_
      refine lv_iadd hx hb dL_law_333 ?_
      refine va_sld hx hb hX hbl hbA hS (lc_ix (k := 2) hL h5 (by decide)) dL_law_334 ?_
      refine lv_aload_n hx hb dL_law_335 rfl (lv_at hl 0 rfl) ?_
      refine lv_iload_n hx hb dL_law_336 rfl (lv_at hl 3 rfl) ?_
      refine lv_iconst (v := 3) hx hb dL_law_337 (by decide) ?_
      refine lv_iadd hx hb dL_law_338 ?_
      refine va_sld hx hb hX hbl hbA hS (lc_ix (k := 3) hL h5 (by decide)) dL_law_339 ?_
      refine lm_I (c_X3_step l D K2 b2 _ _ _ _ (rr_st hRR)) ⟨hx, hb, hml, hown, hw_X3_step⟩ (cwV 3 hw_X3_step tg_X3_step rfl rfl rfl (by decide +kernel) ⟨(Nat.le_of_ble_eq_true rfl), (Nat.le_of_ble_eq_true rfl)⟩) hK2 hP hD hS hA rfl hl.1 rfl (Nat.le_of_ble_eq_true rfl) (Nat.le_of_ble_eq_true rfl) (Nat.le_of_ble_eq_true rfl) dL_law_340 (fun H locs hP hD hS => ?_)
      refine lv_icmp_eq (tgt := 454) hx hb dL_law_343 (by decide) (fun _ => ?_) (fun cx => absurd (q_step hRR _ _ _).1 cx)
      refine lv_iinc (v := nI (i + 5)) (lv' := [(3, .int (nI (i + 5))), (0, .ref b), (1, .ref (a 0)), (2, .ref (b2 0))]) hx hb dL_law_454 hl (k := 3) rfl (show nI i + nI 5 = nI (i + 5) from nI_add i 5) (by decide) rfl (fun ls hl => ?_)
      refine lv_goto (tgt := 18) hx hb dL_law_457 (by decide) ?_
      exact ih (i + 5) _ _ _ _ _ h5 (by omega) (q_step hRR _ _ _).2 hP hD hS (lv_sub hl [1, 2, 3, 0] rfl)
    by_cases c_7 : op = 7
    · refine lv_tableIn (tgt := 348) (off := 316) hx hb dL_law_32 (by rw [c_7]; decide) (by rw [c_7]; decide) (by rw [c_7]; rfl) (by decide) ?_
      refine lv_aload_n hx hb dL_law_348 rfl (lv_at hl 1 rfl) ?_
      refine lb_I (c_X2_forget l D K a _  ) ⟨hx, hb, hml, hown, hw_X2_forget⟩ (cwV 0 hw_X2_forget tg_X2_forget rfl rfl rfl (by decide +kernel) ⟨(Nat.le_of_ble_eq_true rfl), (Nat.le_of_ble_eq_true rfl)⟩) hK1 hP hD hS hA rfl hl.1 rfl (Nat.le_of_ble_eq_true rfl) (Nat.le_of_ble_eq_true rfl) (Nat.le_of_ble_eq_true rfl) dL_law_349 (fun H locs hP hD hS => ?_)
      refine lv_aload_n hx hb dL_law_352 rfl (lv_at hl 2 rfl) ?_
      refine lm_I (c_X3_forget l D K2 b2 _  ) ⟨hx, hb, hml, hown, hw_X3_forget⟩ (cwV 0 hw_X3_forget tg_X3_forget rfl rfl rfl (by decide +kernel) ⟨(Nat.le_of_ble_eq_true rfl), (Nat.le_of_ble_eq_true rfl)⟩) hK2 hP hD hS hA rfl hl.1 rfl (Nat.le_of_ble_eq_true rfl) (Nat.le_of_ble_eq_true rfl) (Nat.le_of_ble_eq_true rfl) dL_law_353 (fun H locs hP hD hS => ?_)
      refine lv_icmp_eq (tgt := 454) hx hb dL_law_356 (by decide) (fun _ => ?_) (fun cx => absurd (q_forget hRR).1 cx)
      refine lv_iinc (v := nI (i + 5)) (lv' := [(3, .int (nI (i + 5))), (0, .ref b), (1, .ref (a 0)), (2, .ref (b2 0))]) hx hb dL_law_454 hl (k := 3) rfl (show nI i + nI 5 = nI (i + 5) from nI_add i 5) (by decide) rfl (fun ls hl => ?_)
      refine lv_goto (tgt := 18) hx hb dL_law_457 (by decide) ?_
      exact ih (i + 5) _ _ _ _ _ h5 (by omega) (q_forget hRR).2 hP hD hS (lv_sub hl [1, 2, 3, 0] rfl)
    by_cases c_8 : op = 8
    · refine lv_tableIn (tgt := 361) (off := 329) hx hb dL_law_32 (by rw [c_8]; decide) (by rw [c_8]; decide) (by rw [c_8]; rfl) (by decide) ?_
      refine lv_aload_n hx hb dL_law_361 rfl (lv_at hl 1 rfl) ?_
      refine lv_aload_n hx hb dL_law_362 rfl (lv_at hl 0 rfl) ?_
      refine lv_iload_n hx hb dL_law_363 rfl (lv_at hl 3 rfl) ?_
      refine lv_iconst (v := 1) hx hb dL_law_364 (by decide) ?_
      refine lv_iadd hx hb dL_law_365 ?_
      refine va_sld hx hb hX hbl hbA hS (lc_ix (k := 1) hL h5 (by decide)) dL_law_366 ?_
      refine lb_I (c_X2_dance l D K a _ _ ) ⟨hx, hb, hml, hown, hw_X2_dance⟩ (cwV 1 hw_X2_dance tg_X2_dance rfl rfl rfl (by decide +kernel) ⟨(Nat.le_of_ble_eq_true rfl), (Nat.le_of_ble_eq_true rfl)⟩) hK1 hP hD hS hA rfl hl.1 rfl (Nat.le_of_ble_eq_true rfl) (Nat.le_of_ble_eq_true rfl) (Nat.le_of_ble_eq_true rfl) dL_law_367 (fun H locs hP hD hS => ?_)
      refine lv_aload_n hx hb dL_law_370 rfl (lv_at hl 2 rfl) ?_
      refine lv_aload_n hx hb dL_law_371 rfl (lv_at hl 0 rfl) ?_
      refine lv_iload_n hx hb dL_law_372 rfl (lv_at hl 3 rfl) ?_
      refine lv_iconst (v := 1) hx hb dL_law_373 (by decide) ?_
      refine lv_iadd hx hb dL_law_374 ?_
      refine va_sld hx hb hX hbl hbA hS (lc_ix (k := 1) hL h5 (by decide)) dL_law_375 ?_
      refine lm_I (c_X3_dance l D K2 b2 _ _ (rr_st hRR)) ⟨hx, hb, hml, hown, hw_X3_dance⟩ (cwV 1 hw_X3_dance tg_X3_dance rfl rfl rfl (by decide +kernel) ⟨(Nat.le_of_ble_eq_true rfl), (Nat.le_of_ble_eq_true rfl)⟩) hK2 hP hD hS hA rfl hl.1 rfl (Nat.le_of_ble_eq_true rfl) (Nat.le_of_ble_eq_true rfl) (Nat.le_of_ble_eq_true rfl) dL_law_376 (fun H locs hP hD hS => ?_)
      refine lv_icmp_eq (tgt := 454) hx hb dL_law_379 (by decide) (fun _ => ?_) (fun cx => absurd (q_dance hRR _).1 cx)
      refine lv_iinc (v := nI (i + 5)) (lv' := [(3, .int (nI (i + 5))), (0, .ref b), (1, .ref (a 0)), (2, .ref (b2 0))]) hx hb dL_law_454 hl (k := 3) rfl (show nI i + nI 5 = nI (i + 5) from nI_add i 5) (by decide) rfl (fun ls hl => ?_)
      refine lv_goto (tgt := 18) hx hb dL_law_457 (by decide) ?_
      exact ih (i + 5) _ _ _ _ _ h5 (by omega) (q_dance hRR _).2 hP hD hS (lv_sub hl [1, 2, 3, 0] rfl)
    by_cases c_9 : op = 9
    · refine lv_tableIn (tgt := 384) (off := 352) hx hb dL_law_32 (by rw [c_9]; decide) (by rw [c_9]; decide) (by rw [c_9]; rfl) (by decide) ?_
      refine lv_aload_n hx hb dL_law_384 rfl (lv_at hl 1 rfl) ?_
      refine lv_aload_n hx hb dL_law_385 rfl (lv_at hl 0 rfl) ?_
      refine lv_iload_n hx hb dL_law_386 rfl (lv_at hl 3 rfl) ?_
      refine lv_iconst (v := 1) hx hb dL_law_387 (by decide) ?_
      refine lv_iadd hx hb dL_law_388 ?_
      refine va_sld hx hb hX hbl hbA hS (lc_ix (k := 1) hL h5 (by decide)) dL_law_389 ?_
      refine lb_I (c_X2_danced l D K a _ _ ) ⟨hx, hb, hml, hown, hw_X2_danced⟩ (cwV 1 hw_X2_danced tg_X2_danced rfl rfl rfl (by decide +kernel) ⟨(Nat.le_of_ble_eq_true rfl), (Nat.le_of_ble_eq_true rfl)⟩) hK1 hP hD hS hA rfl hl.1 rfl (Nat.le_of_ble_eq_true rfl) (Nat.le_of_ble_eq_true rfl) (Nat.le_of_ble_eq_true rfl) dL_law_390 (fun H locs hP hD hS => ?_)
      refine lv_aload_n hx hb dL_law_393 rfl (lv_at hl 2 rfl) ?_
      refine lv_aload_n hx hb dL_law_394 rfl (lv_at hl 0 rfl) ?_
      refine lv_iload_n hx hb dL_law_395 rfl (lv_at hl 3 rfl) ?_
      refine lv_iconst (v := 1) hx hb dL_law_396 (by decide) ?_
      refine lv_iadd hx hb dL_law_397 ?_
      refine va_sld hx hb hX hbl hbA hS (lc_ix (k := 1) hL h5 (by decide)) dL_law_398 ?_
      refine lm_I (c_X3_danced l D K2 b2 _ _ ) ⟨hx, hb, hml, hown, hw_X3_danced⟩ (cwV 1 hw_X3_danced tg_X3_danced rfl rfl rfl (by decide +kernel) ⟨(Nat.le_of_ble_eq_true rfl), (Nat.le_of_ble_eq_true rfl)⟩) hK2 hP hD hS hA rfl hl.1 rfl (Nat.le_of_ble_eq_true rfl) (Nat.le_of_ble_eq_true rfl) (Nat.le_of_ble_eq_true rfl) dL_law_399 (fun H locs hP hD hS => ?_)
      refine lv_icmp_eq (tgt := 454) hx hb dL_law_402 (by decide) (fun _ => ?_) (fun cx => absurd (q_danced hRR _) cx)
      refine lv_iinc (v := nI (i + 5)) (lv' := [(3, .int (nI (i + 5))), (0, .ref b), (1, .ref (a 0)), (2, .ref (b2 0))]) hx hb dL_law_454 hl (k := 3) rfl (show nI i + nI 5 = nI (i + 5) from nI_add i 5) (by decide) rfl (fun ls hl => ?_)
      refine lv_goto (tgt := 18) hx hb dL_law_457 (by decide) ?_
      exact ih (i + 5) _ _ _ _ _ h5 (by omega) hRR hP hD hS (lv_sub hl [1, 2, 3, 0] rfl)
    by_cases c_10 : op = 10
    · refine lv_tableIn (tgt := 407) (off := 375) hx hb dL_law_32 (by rw [c_10]; decide) (by rw [c_10]; decide) (by rw [c_10]; rfl) (by decide) ?_
      refine lv_aload_n hx hb dL_law_407 rfl (lv_at hl 1 rfl) ?_
      refine lv_aload_n hx hb dL_law_408 rfl (lv_at hl 0 rfl) ?_
      refine lv_iload_n hx hb dL_law_409 rfl (lv_at hl 3 rfl) ?_
      refine lv_iconst (v := 1) hx hb dL_law_410 (by decide) ?_
      refine lv_iadd hx hb dL_law_411 ?_
      refine va_sld hx hb hX hbl hbA hS (lc_ix (k := 1) hL h5 (by decide)) dL_law_412 ?_
      refine lb_L (c_X2_bar l D K a _ _ ) ⟨hx, hb, hml, hown, hw_X2_bar⟩ (cwV 1 hw_X2_bar tg_X2_bar rfl rfl rfl (by decide +kernel) ⟨(Nat.le_of_ble_eq_true rfl), (Nat.le_of_ble_eq_true rfl)⟩) hK1 hP hD hS hA rfl hl.1 rfl (Nat.le_of_ble_eq_true rfl) (Nat.le_of_ble_eq_true rfl) (Nat.le_of_ble_eq_true rfl) dL_law_413 (fun H locs hP hD hS => ?_)
      refine lv_aload_n hx hb dL_law_416 rfl (lv_at hl 2 rfl) ?_
      refine lv_aload_n hx hb dL_law_417 rfl (lv_at hl 0 rfl) ?_
      refine lv_iload_n hx hb dL_law_418 rfl (lv_at hl 3 rfl) ?_
      refine lv_iconst (v := 1) hx hb dL_law_419 (by decide) ?_
      refine lv_iadd hx hb dL_law_420 ?_
      refine va_sld hx hb hX hbl hbA hS (lc_ix (k := 1) hL h5 (by decide)) dL_law_421 ?_
      refine lm_L (c_X3_bar l D K2 b2 _ _ ) ⟨hx, hb, hml, hown, hw_X3_bar⟩ (cwV 1 hw_X3_bar tg_X3_bar rfl rfl rfl (by decide +kernel) ⟨(Nat.le_of_ble_eq_true rfl), (Nat.le_of_ble_eq_true rfl)⟩) hK2 hP hD hS hA rfl hl.1 rfl (Nat.le_of_ble_eq_true rfl) (Nat.le_of_ble_eq_true rfl) (Nat.le_of_ble_eq_true rfl) dL_law_422 (fun H locs hP hD hS => ?_)
      refine W.lcmp hx hb dL_law_425 ?_
      refine lv_if_eq (tgt := 454) hx hb dL_law_426 (by decide) (fun _ => ?_) (fun cx => absurd ((lg_cmp_eq _ _).mpr (q_bar hRR _)) cx)
      refine lv_iinc (v := nI (i + 5)) (lv' := [(3, .int (nI (i + 5))), (0, .ref b), (1, .ref (a 0)), (2, .ref (b2 0))]) hx hb dL_law_454 hl (k := 3) rfl (show nI i + nI 5 = nI (i + 5) from nI_add i 5) (by decide) rfl (fun ls hl => ?_)
      refine lv_goto (tgt := 18) hx hb dL_law_457 (by decide) ?_
      exact ih (i + 5) _ _ _ _ _ h5 (by omega) hRR hP hD hS (lv_sub hl [1, 2, 3, 0] rfl)
    by_cases c_11 : op = 11
    · refine lv_tableIn (tgt := 431) (off := 399) hx hb dL_law_32 (by rw [c_11]; decide) (by rw [c_11]; decide) (by rw [c_11]; rfl) (by decide) ?_
      refine lv_aload_n hx hb dL_law_431 rfl (lv_at hl 1 rfl) ?_
      refine lv_aload_n hx hb dL_law_432 rfl (lv_at hl 0 rfl) ?_
      refine lv_iload_n hx hb dL_law_433 rfl (lv_at hl 3 rfl) ?_
      refine lv_iconst (v := 1) hx hb dL_law_434 (by decide) ?_
      refine lv_iadd hx hb dL_law_435 ?_
      refine va_sld hx hb hX hbl hbA hS (lc_ix (k := 1) hL h5 (by decide)) dL_law_436 ?_
      refine lb_I (c_X2_order l D K a _ _ (rr_zB hRR)) ⟨hx, hb, hml, hown, hw_X2_order⟩ (cwV 1 hw_X2_order tg_X2_order rfl rfl rfl (by decide +kernel) ⟨(Nat.le_of_ble_eq_true rfl), (Nat.le_of_ble_eq_true rfl)⟩) hK1 hP hD hS hA rfl hl.1 rfl (Nat.le_of_ble_eq_true rfl) (Nat.le_of_ble_eq_true rfl) (Nat.le_of_ble_eq_true rfl) dL_law_437 (fun H locs hP hD hS => ?_)
      refine lv_aload_n hx hb dL_law_440 rfl (lv_at hl 2 rfl) ?_
      refine lv_aload_n hx hb dL_law_441 rfl (lv_at hl 0 rfl) ?_
      refine lv_iload_n hx hb dL_law_442 rfl (lv_at hl 3 rfl) ?_
      refine lv_iconst (v := 1) hx hb dL_law_443 (by decide) ?_
      refine lv_iadd hx hb dL_law_444 ?_
      refine va_sld hx hb hX hbl hbA hS (lc_ix (k := 1) hL h5 (by decide)) dL_law_445 ?_
      refine lm_I (c_X3_order l D K2 b2 _ _ (rr_zM hRR)) ⟨hx, hb, hml, hown, hw_X3_order⟩ (cwV 1 hw_X3_order tg_X3_order rfl rfl rfl (by decide +kernel) ⟨(Nat.le_of_ble_eq_true rfl), (Nat.le_of_ble_eq_true rfl)⟩) hK2 hP hD hS hA rfl hl.1 rfl (Nat.le_of_ble_eq_true rfl) (Nat.le_of_ble_eq_true rfl) (Nat.le_of_ble_eq_true rfl) dL_law_446 (fun H locs hP hD hS => ?_)
      refine lv_icmp_eq (tgt := 454) hx hb dL_law_449 (by decide) (fun _ => ?_) (fun cx => absurd (q_order hRR _) cx)
      refine lv_iinc (v := nI (i + 5)) (lv' := [(3, .int (nI (i + 5))), (0, .ref b), (1, .ref (a 0)), (2, .ref (b2 0))]) hx hb dL_law_454 hl (k := 3) rfl (show nI i + nI 5 = nI (i + 5) from nI_add i 5) (by decide) rfl (fun ls hl => ?_)
      refine lv_goto (tgt := 18) hx hb dL_law_457 (by decide) ?_
      exact ih (i + 5) _ _ _ _ _ h5 (by omega) hRR hP hD hS (lv_sub hl [1, 2, 3, 0] rfl)
    have n_0 := sw_i c_0 (k := 0) (by decide)
    have n_1 := sw_i c_1 (k := 1) (by decide)
    have n_2 := sw_i c_2 (k := 2) (by decide)
    have n_3 := sw_i c_3 (k := 3) (by decide)
    have n_4 := sw_i c_4 (k := 4) (by decide)
    have n_5 := sw_i c_5 (k := 5) (by decide)
    have n_6 := sw_i c_6 (k := 6) (by decide)
    have n_7 := sw_i c_7 (k := 7) (by decide)
    have n_8 := sw_i c_8 (k := 8) (by decide)
    have n_9 := sw_i c_9 (k := 9) (by decide)
    have n_10 := sw_i c_10 (k := 10) (by decide)
    have n_11 := sw_i c_11 (k := 11) (by decide)
    refine lv_tableOut (tgt := 454) hx hb dL_law_32 (by omega) (by decide) ?_
    refine lv_iinc (v := nI (i + 5)) (lv' := [(3, .int (nI (i + 5))), (0, .ref b), (1, .ref (a 0)), (2, .ref (b2 0))]) hx hb dL_law_454 hl (k := 3) rfl (show nI i + nI 5 = nI (i + 5) from nI_add i 5) (by decide) rfl (fun ls hl => ?_)
    refine lv_goto (tgt := 18) hx hb dL_law_457 (by decide) ?_
    exact ih (i + 5) _ _ _ _ _ h5 (by omega) hRR hP hD hS (lv_sub hl [1, 2, 3, 0] rfl)
