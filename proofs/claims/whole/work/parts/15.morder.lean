def f_X3_isAhead (s : SM) (t : Int32) (u : Int32) : Int32 := if ((gM_Z s) t.toNatClampNeg) = ((gM_Z s) u.toNatClampNeg) then (if ((gM_Z s) t.toNatClampNeg) = 0 then (if ((gM_L s) t.toNatClampNeg) = ((gM_L s) u.toNatClampNeg) then (if ((gM_P s) t.toNatClampNeg) = ((gM_P s) u.toNatClampNeg) then (if ((gM_K s) t.toNatClampNeg) = ((gM_K s) u.toNatClampNeg) then (if ((gM_T s) t.toNatClampNeg) = ((gM_T s) u.toNatClampNeg) then (if u ≤ t then (0) else (1)) else (if ((gM_T s) u.toNatClampNeg) ≤ ((gM_T s) t.toNatClampNeg) then (0) else (1))) else (if ((gM_K s) u.toNatClampNeg) ≤ ((gM_K s) t.toNatClampNeg) then (0) else (1))) else (if (f_X3_place4 ((gM_P s) u.toNatClampNeg)) ≤ (f_X3_place4 ((gM_P s) t.toNatClampNeg)) then (0) else (1))) else (if (f_X3_place ((gM_L s) u.toNatClampNeg)) ≤ (f_X3_place ((gM_L s) t.toNatClampNeg)) then (0) else (1))) else (if u ≤ t then (0) else (1))) else ((gM_Z s) u.toNatClampNeg)
set_option maxHeartbeats 4000000 in
set_option maxRecDepth 100000 in
theorem c_X3_isAhead (l : Launch) (D : va_G) (K : ClassId × ClassId × ClassId) (a : Nat → Nat) (s : SM) (t : Int32) (u : Int32) (h_t : vp_in t 8) (h_u : vp_in u 8) (hZ : ∀ k : Nat, narrow .boolean (.int (gM_Z s k)) = .int (gM_Z s k)) : MetI l yX3_isAhead wsX3_isAhead { frames := 1, cells := 0, slots := 0, locals := 21 } D vwCl (tyK K) (wM K a) [.ref (a 0), .int t, .int u] s (f_X3_isAhead s t u) s := by
  intro sz0
  refine en_W (cc := cX3_isAhead) (maxL := 3) (ret := (some .boolean)) (Qc := fun A => va_Qi (fun (x0 : Int32) (u0 : SM) => x0 = f_X3_isAhead s t u ∧ u0 = s) (bs_a D vwCl (tyK K) (wM K a) A) A) (by decide) rfl (Nat.le_of_ble_eq_true rfl) ?_ sz0
  intro p e st m below meth c ls A hx hb hr hml hts hown hlk hA hK hP hD hS hl
  have hown : st.vm.findClass RX3 = some m.cls := hown
  have hl : lv_has ls 3 [(0, .ref (a 0)), (1, .int t), (2, .int u)] := hl
  have hinX3 : ∀ w ∈ u_ws RX3 TX3 21, w ∈ wsX3_isAhead := fun w h => List.mem_cons_of_mem _ (List.mem_append_right _ h)
  have k7 := hts (.fieldLink RX3 7 "PuppetBarModel" "isCut" "[Z") (by decide +kernel)
  have k13 := hts (.fieldLink RX3 13 "PuppetBarModel" "length" "[J") (by decide +kernel)
  have k17 := hts (.fieldLink RX3 17 "PuppetBarModel" "pull" "[I") (by decide +kernel)
  have k21 := hts (.fieldLink RX3 21 "PuppetBarModel" "knots" "[I") (by decide +kernel)
  have k24 := hts (.fieldLink RX3 24 "PuppetBarModel" "twist" "[J") (by decide +kernel)
  refine lv_aload_n hx hb dX3_isAhead_0 rfl (lv_at hl 0 rfl) ?_
  refine va_get (D := D) (ci := 2) (C := RX3) (T := TX3) (N := 21) hx hb hts hinX3 hown hK hP 0 rfl rfl 0 (by decide) k7 (fun _ h9 => h9) rfl dX3_isAhead_1 ?_
  refine lv_iload_n hx hb dX3_isAhead_4 rfl (lv_at hl 1 rfl) ?_
  refine va_zald hx hb hK hP 1 2 rfl rfl h_t dX3_isAhead_5 ?_
  refine lv_aload_n hx hb dX3_isAhead_6 rfl (lv_at hl 0 rfl) ?_
  refine va_get (D := D) (ci := 2) (C := RX3) (T := TX3) (N := 21) hx hb hts hinX3 hown hK hP 0 rfl rfl 0 (by decide) k7 (fun _ h9 => h9) rfl dX3_isAhead_7 ?_
  refine lv_iload_n hx hb dX3_isAhead_10 rfl (lv_at hl 2 rfl) ?_
  refine va_zald hx hb hK hP 1 2 rfl rfl h_u dX3_isAhead_11 ?_
  refine lv_icmp_eq (tgt := 22) hx hb dX3_isAhead_12 (by decide) (fun c_12 => ?_) (fun c_12 => ?_)
  · refine lv_aload_n hx hb dX3_isAhead_22 rfl (lv_at hl 0 rfl) ?_
    refine va_get (D := D) (ci := 2) (C := RX3) (T := TX3) (N := 21) hx hb hts hinX3 hown hK hP 0 rfl rfl 0 (by decide) k7 (fun _ h9 => h9) rfl dX3_isAhead_23 ?_
    refine lv_iload_n hx hb dX3_isAhead_26 rfl (lv_at hl 1 rfl) ?_
    refine va_zald hx hb hK hP 1 2 rfl rfl h_t dX3_isAhead_27 ?_
    refine lv_if_eq (tgt := 42) hx hb dX3_isAhead_28 (by decide) (fun c_28 => ?_) (fun c_28 => ?_)
    · refine lv_aload_n hx hb dX3_isAhead_42 rfl (lv_at hl 0 rfl) ?_
      refine va_get (D := D) (ci := 2) (C := RX3) (T := TX3) (N := 21) hx hb hts hinX3 hown hK hP 0 rfl rfl 1 (by decide) k13 (fun _ h9 => h9) rfl dX3_isAhead_43 ?_
      refine lv_iload_n hx hb dX3_isAhead_46 rfl (lv_at hl 1 rfl) ?_
      refine va_lald hx hb hK hP 2 1 rfl rfl h_t dX3_isAhead_47 ?_
      refine lv_aload_n hx hb dX3_isAhead_48 rfl (lv_at hl 0 rfl) ?_
      refine va_get (D := D) (ci := 2) (C := RX3) (T := TX3) (N := 21) hx hb hts hinX3 hown hK hP 0 rfl rfl 1 (by decide) k13 (fun _ h9 => h9) rfl dX3_isAhead_49 ?_
      refine lv_iload_n hx hb dX3_isAhead_52 rfl (lv_at hl 2 rfl) ?_
      refine va_lald hx hb hK hP 2 1 rfl rfl h_u dX3_isAhead_53 ?_
      refine W.lcmp hx hb dX3_isAhead_54 ?_
      refine lv_if_eq (tgt := 86) hx hb dX3_isAhead_55 (by decide) (fun c_55 => ?_) (fun c_55 => ?_)
      · have c_55 := (lg_cmp_eq _ _).mp c_55
        refine lv_aload_n hx hb dX3_isAhead_86 rfl (lv_at hl 0 rfl) ?_
        refine va_get (D := D) (ci := 2) (C := RX3) (T := TX3) (N := 21) hx hb hts hinX3 hown hK hP 0 rfl rfl 2 (by decide) k17 (fun _ h9 => h9) rfl dX3_isAhead_87 ?_
        refine lv_iload_n hx hb dX3_isAhead_90 rfl (lv_at hl 1 rfl) ?_
        refine va_iald hx hb hK hP 3 0 rfl rfl h_t dX3_isAhead_91 ?_
        refine lv_aload_n hx hb dX3_isAhead_92 rfl (lv_at hl 0 rfl) ?_
        refine va_get (D := D) (ci := 2) (C := RX3) (T := TX3) (N := 21) hx hb hts hinX3 hown hK hP 0 rfl rfl 2 (by decide) k17 (fun _ h9 => h9) rfl dX3_isAhead_93 ?_
        refine lv_iload_n hx hb dX3_isAhead_96 rfl (lv_at hl 2 rfl) ?_
        refine va_iald hx hb hK hP 3 0 rfl rfl h_u dX3_isAhead_97 ?_
        refine lv_icmp_eq (tgt := 128) hx hb dX3_isAhead_98 (by decide) (fun c_98 => ?_) (fun c_98 => ?_)
        · refine lv_aload_n hx hb dX3_isAhead_128 rfl (lv_at hl 0 rfl) ?_
          refine va_get (D := D) (ci := 2) (C := RX3) (T := TX3) (N := 21) hx hb hts hinX3 hown hK hP 0 rfl rfl 3 (by decide) k21 (fun _ h9 => h9) rfl dX3_isAhead_129 ?_
          refine lv_iload_n hx hb dX3_isAhead_132 rfl (lv_at hl 1 rfl) ?_
          refine va_iald hx hb hK hP 4 0 rfl rfl h_t dX3_isAhead_133 ?_
          refine lv_aload_n hx hb dX3_isAhead_134 rfl (lv_at hl 0 rfl) ?_
          refine va_get (D := D) (ci := 2) (C := RX3) (T := TX3) (N := 21) hx hb hts hinX3 hown hK hP 0 rfl rfl 3 (by decide) k21 (fun _ h9 => h9) rfl dX3_isAhead_135 ?_
          refine lv_iload_n hx hb dX3_isAhead_138 rfl (lv_at hl 2 rfl) ?_
          refine va_iald hx hb hK hP 4 0 rfl rfl h_u dX3_isAhead_139 ?_
          refine lv_icmp_eq (tgt := 164) hx hb dX3_isAhead_140 (by decide) (fun c_140 => ?_) (fun c_140 => ?_)
          · refine lv_aload_n hx hb dX3_isAhead_164 rfl (lv_at hl 0 rfl) ?_
            refine va_get (D := D) (ci := 2) (C := RX3) (T := TX3) (N := 21) hx hb hts hinX3 hown hK hP 0 rfl rfl 4 (by decide) k24 (fun _ h9 => h9) rfl dX3_isAhead_165 ?_
            refine lv_iload_n hx hb dX3_isAhead_168 rfl (lv_at hl 1 rfl) ?_
            refine va_lald hx hb hK hP 5 1 rfl rfl h_t dX3_isAhead_169 ?_
            refine lv_aload_n hx hb dX3_isAhead_170 rfl (lv_at hl 0 rfl) ?_
            refine va_get (D := D) (ci := 2) (C := RX3) (T := TX3) (N := 21) hx hb hts hinX3 hown hK hP 0 rfl rfl 4 (by decide) k24 (fun _ h9 => h9) rfl dX3_isAhead_171 ?_
            refine lv_iload_n hx hb dX3_isAhead_174 rfl (lv_at hl 2 rfl) ?_
            refine va_lald hx hb hK hP 5 1 rfl rfl h_u dX3_isAhead_175 ?_
            refine W.lcmp hx hb dX3_isAhead_176 ?_
            refine lv_if_eq (tgt := 204) hx hb dX3_isAhead_177 (by decide) (fun c_177 => ?_) (fun c_177 => ?_)
            · have c_177 := (lg_cmp_eq _ _).mp c_177
              refine lv_iload_n hx hb dX3_isAhead_204 rfl (lv_at hl 1 rfl) ?_
              refine lv_iload_n hx hb dX3_isAhead_205 rfl (lv_at hl 2 rfl) ?_
              refine lv_icmp_ge (tgt := 213) hx hb dX3_isAhead_206 (by decide) (fun c_206 => ?_) (fun c_206 => ?_)
              · refine lv_iconst (v := 0) hx hb dX3_isAhead_213 (by decide) ?_
                exact rt_Z hx hb hr hlk hK hP hD hS rfl ⟨Eq.symm (Eq.trans (if_pos c_12) (Eq.trans (if_pos c_28) (Eq.trans (if_pos c_55) (Eq.trans (if_pos c_98) (Eq.trans (if_pos c_140) (Eq.trans (if_pos c_177) (Eq.trans (if_pos c_206) (rfl)))))))), rfl⟩ dX3_isAhead_214
              · refine lv_iconst (v := 1) hx hb dX3_isAhead_209 (by decide) ?_
                refine lv_goto (tgt := 214) hx hb dX3_isAhead_210 (by decide) ?_
                exact rt_Z hx hb hr hlk hK hP hD hS rfl ⟨Eq.symm (Eq.trans (if_pos c_12) (Eq.trans (if_pos c_28) (Eq.trans (if_pos c_55) (Eq.trans (if_pos c_98) (Eq.trans (if_pos c_140) (Eq.trans (if_pos c_177) (Eq.trans (if_neg c_206) (rfl)))))))), rfl⟩ dX3_isAhead_214
            · have c_177 := mt (lg_cmp_eq _ _).mpr c_177
              refine lv_aload_n hx hb dX3_isAhead_180 rfl (lv_at hl 0 rfl) ?_
              refine va_get (D := D) (ci := 2) (C := RX3) (T := TX3) (N := 21) hx hb hts hinX3 hown hK hP 0 rfl rfl 4 (by decide) k24 (fun _ h9 => h9) rfl dX3_isAhead_181 ?_
              refine lv_iload_n hx hb dX3_isAhead_184 rfl (lv_at hl 1 rfl) ?_
              refine va_lald hx hb hK hP 5 1 rfl rfl h_t dX3_isAhead_185 ?_
              refine lv_aload_n hx hb dX3_isAhead_186 rfl (lv_at hl 0 rfl) ?_
              refine va_get (D := D) (ci := 2) (C := RX3) (T := TX3) (N := 21) hx hb hts hinX3 hown hK hP 0 rfl rfl 4 (by decide) k24 (fun _ h9 => h9) rfl dX3_isAhead_187 ?_
              refine lv_iload_n hx hb dX3_isAhead_190 rfl (lv_at hl 2 rfl) ?_
              refine va_lald hx hb hK hP 5 1 rfl rfl h_u dX3_isAhead_191 ?_
              refine W.lcmp hx hb dX3_isAhead_192 ?_
              refine lv_if_ge (tgt := 200) hx hb dX3_isAhead_193 (by decide) (fun c_193 => ?_) (fun c_193 => ?_)
              · have c_193 := (lg_cmp_ge _ _).mp c_193
                refine lv_iconst (v := 0) hx hb dX3_isAhead_200 (by decide) ?_
                refine lv_goto (tgt := 214) hx hb dX3_isAhead_201 (by decide) ?_
                exact rt_Z hx hb hr hlk hK hP hD hS rfl ⟨Eq.symm (Eq.trans (if_pos c_12) (Eq.trans (if_pos c_28) (Eq.trans (if_pos c_55) (Eq.trans (if_pos c_98) (Eq.trans (if_pos c_140) (Eq.trans (if_neg c_177) (Eq.trans (if_pos c_193) (rfl)))))))), rfl⟩ dX3_isAhead_214
              · have c_193 := mt (lg_cmp_ge _ _).mpr c_193
                refine lv_iconst (v := 1) hx hb dX3_isAhead_196 (by decide) ?_
                refine lv_goto (tgt := 214) hx hb dX3_isAhead_197 (by decide) ?_
                exact rt_Z hx hb hr hlk hK hP hD hS rfl ⟨Eq.symm (Eq.trans (if_pos c_12) (Eq.trans (if_pos c_28) (Eq.trans (if_pos c_55) (Eq.trans (if_pos c_98) (Eq.trans (if_pos c_140) (Eq.trans (if_neg c_177) (Eq.trans (if_neg c_193) (rfl)))))))), rfl⟩ dX3_isAhead_214
          · refine lv_aload_n hx hb dX3_isAhead_143 rfl (lv_at hl 0 rfl) ?_
            refine va_get (D := D) (ci := 2) (C := RX3) (T := TX3) (N := 21) hx hb hts hinX3 hown hK hP 0 rfl rfl 3 (by decide) k21 (fun _ h9 => h9) rfl dX3_isAhead_144 ?_
            refine lv_iload_n hx hb dX3_isAhead_147 rfl (lv_at hl 1 rfl) ?_
            refine va_iald hx hb hK hP 4 0 rfl rfl h_t dX3_isAhead_148 ?_
            refine lv_aload_n hx hb dX3_isAhead_149 rfl (lv_at hl 0 rfl) ?_
            refine va_get (D := D) (ci := 2) (C := RX3) (T := TX3) (N := 21) hx hb hts hinX3 hown hK hP 0 rfl rfl 3 (by decide) k21 (fun _ h9 => h9) rfl dX3_isAhead_150 ?_
            refine lv_iload_n hx hb dX3_isAhead_153 rfl (lv_at hl 2 rfl) ?_
            refine va_iald hx hb hK hP 4 0 rfl rfl h_u dX3_isAhead_154 ?_
            refine lv_icmp_ge (tgt := 162) hx hb dX3_isAhead_155 (by decide) (fun c_155 => ?_) (fun c_155 => ?_)
            · refine lv_iconst (v := 0) hx hb dX3_isAhead_162 (by decide) ?_
              exact rt_Z hx hb hr hlk hK hP hD hS rfl ⟨Eq.symm (Eq.trans (if_pos c_12) (Eq.trans (if_pos c_28) (Eq.trans (if_pos c_55) (Eq.trans (if_pos c_98) (Eq.trans (if_neg c_140) (Eq.trans (if_pos c_155) (rfl))))))), rfl⟩ dX3_isAhead_163
            · refine lv_iconst (v := 1) hx hb dX3_isAhead_158 (by decide) ?_
              refine lv_goto (tgt := 163) hx hb dX3_isAhead_159 (by decide) ?_
              exact rt_Z hx hb hr hlk hK hP hD hS rfl ⟨Eq.symm (Eq.trans (if_pos c_12) (Eq.trans (if_pos c_28) (Eq.trans (if_pos c_55) (Eq.trans (if_pos c_98) (Eq.trans (if_neg c_140) (Eq.trans (if_neg c_155) (rfl))))))), rfl⟩ dX3_isAhead_163
        · refine lv_aload_n hx hb dX3_isAhead_101 rfl (lv_at hl 0 rfl) ?_
          refine va_get (D := D) (ci := 2) (C := RX3) (T := TX3) (N := 21) hx hb hts hinX3 hown hK hP 0 rfl rfl 2 (by decide) k17 (fun _ h9 => h9) rfl dX3_isAhead_102 ?_
          refine lv_iload_n hx hb dX3_isAhead_105 rfl (lv_at hl 1 rfl) ?_
          refine va_iald hx hb hK hP 3 0 rfl rfl h_t dX3_isAhead_106 ?_
          refine cl_Pi (c_X3_place4 l _) ⟨hx, hb, hml, hown, hts⟩ (va_cwS 1 hts gX3_isAhead_X3_place4 rfl rfl rfl (by decide +kernel) ⟨Nat.le_of_ble_eq_true rfl, Nat.le_of_ble_eq_true rfl⟩) rfl hl.1 rfl (Nat.le_of_ble_eq_true rfl) (Nat.zero_le _) (Nat.zero_le _) dX3_isAhead_107 ?_
          refine lv_aload_n hx hb dX3_isAhead_110 rfl (lv_at hl 0 rfl) ?_
          refine va_get (D := D) (ci := 2) (C := RX3) (T := TX3) (N := 21) hx hb hts hinX3 hown hK hP 0 rfl rfl 2 (by decide) k17 (fun _ h9 => h9) rfl dX3_isAhead_111 ?_
          refine lv_iload_n hx hb dX3_isAhead_114 rfl (lv_at hl 2 rfl) ?_
          refine va_iald hx hb hK hP 3 0 rfl rfl h_u dX3_isAhead_115 ?_
          refine cl_Pi (c_X3_place4 l _) ⟨hx, hb, hml, hown, hts⟩ (va_cwS 1 hts gX3_isAhead_X3_place4 rfl rfl rfl (by decide +kernel) ⟨Nat.le_of_ble_eq_true rfl, Nat.le_of_ble_eq_true rfl⟩) rfl hl.1 rfl (Nat.le_of_ble_eq_true rfl) (Nat.zero_le _) (Nat.zero_le _) dX3_isAhead_116 ?_
          refine lv_icmp_ge (tgt := 126) hx hb dX3_isAhead_119 (by decide) (fun c_119 => ?_) (fun c_119 => ?_)
          · refine lv_iconst (v := 0) hx hb dX3_isAhead_126 (by decide) ?_
            exact rt_Z hx hb hr hlk hK hP hD hS rfl ⟨Eq.symm (Eq.trans (if_pos c_12) (Eq.trans (if_pos c_28) (Eq.trans (if_pos c_55) (Eq.trans (if_neg c_98) (Eq.trans (if_pos c_119) (rfl)))))), rfl⟩ dX3_isAhead_127
          · refine lv_iconst (v := 1) hx hb dX3_isAhead_122 (by decide) ?_
            refine lv_goto (tgt := 127) hx hb dX3_isAhead_123 (by decide) ?_
            exact rt_Z hx hb hr hlk hK hP hD hS rfl ⟨Eq.symm (Eq.trans (if_pos c_12) (Eq.trans (if_pos c_28) (Eq.trans (if_pos c_55) (Eq.trans (if_neg c_98) (Eq.trans (if_neg c_119) (rfl)))))), rfl⟩ dX3_isAhead_127
      · have c_55 := mt (lg_cmp_eq _ _).mpr c_55
        refine lv_aload_n hx hb dX3_isAhead_58 rfl (lv_at hl 0 rfl) ?_
        refine va_get (D := D) (ci := 2) (C := RX3) (T := TX3) (N := 21) hx hb hts hinX3 hown hK hP 0 rfl rfl 1 (by decide) k13 (fun _ h9 => h9) rfl dX3_isAhead_59 ?_
        refine lv_iload_n hx hb dX3_isAhead_62 rfl (lv_at hl 1 rfl) ?_
        refine va_lald hx hb hK hP 2 1 rfl rfl h_t dX3_isAhead_63 ?_
        refine cl_Pl (c_X3_place l _) ⟨hx, hb, hml, hown, hts⟩ (va_cwS 1 hts gX3_isAhead_X3_place rfl rfl rfl (by decide +kernel) ⟨Nat.le_of_ble_eq_true rfl, Nat.le_of_ble_eq_true rfl⟩) rfl hl.1 rfl (Nat.le_of_ble_eq_true rfl) (Nat.zero_le _) (Nat.zero_le _) dX3_isAhead_64 ?_
        refine lv_aload_n hx hb dX3_isAhead_67 rfl (lv_at hl 0 rfl) ?_
        refine va_get (D := D) (ci := 2) (C := RX3) (T := TX3) (N := 21) hx hb hts hinX3 hown hK hP 0 rfl rfl 1 (by decide) k13 (fun _ h9 => h9) rfl dX3_isAhead_68 ?_
        refine lv_iload_n hx hb dX3_isAhead_71 rfl (lv_at hl 2 rfl) ?_
        refine va_lald hx hb hK hP 2 1 rfl rfl h_u dX3_isAhead_72 ?_
        refine cl_Pl (c_X3_place l _) ⟨hx, hb, hml, hown, hts⟩ (va_cwS 1 hts gX3_isAhead_X3_place rfl rfl rfl (by decide +kernel) ⟨Nat.le_of_ble_eq_true rfl, Nat.le_of_ble_eq_true rfl⟩) rfl hl.1 rfl (Nat.le_of_ble_eq_true rfl) (Nat.zero_le _) (Nat.zero_le _) dX3_isAhead_73 ?_
        refine W.lcmp hx hb dX3_isAhead_76 ?_
        refine lv_if_ge (tgt := 84) hx hb dX3_isAhead_77 (by decide) (fun c_77 => ?_) (fun c_77 => ?_)
        · have c_77 := (lg_cmp_ge _ _).mp c_77
          refine lv_iconst (v := 0) hx hb dX3_isAhead_84 (by decide) ?_
          exact rt_Z hx hb hr hlk hK hP hD hS rfl ⟨Eq.symm (Eq.trans (if_pos c_12) (Eq.trans (if_pos c_28) (Eq.trans (if_neg c_55) (Eq.trans (if_pos c_77) (rfl))))), rfl⟩ dX3_isAhead_85
        · have c_77 := mt (lg_cmp_ge _ _).mpr c_77
          refine lv_iconst (v := 1) hx hb dX3_isAhead_80 (by decide) ?_
          refine lv_goto (tgt := 85) hx hb dX3_isAhead_81 (by decide) ?_
          exact rt_Z hx hb hr hlk hK hP hD hS rfl ⟨Eq.symm (Eq.trans (if_pos c_12) (Eq.trans (if_pos c_28) (Eq.trans (if_neg c_55) (Eq.trans (if_neg c_77) (rfl))))), rfl⟩ dX3_isAhead_85
    · refine lv_iload_n hx hb dX3_isAhead_31 rfl (lv_at hl 1 rfl) ?_
      refine lv_iload_n hx hb dX3_isAhead_32 rfl (lv_at hl 2 rfl) ?_
      refine lv_icmp_ge (tgt := 40) hx hb dX3_isAhead_33 (by decide) (fun c_33 => ?_) (fun c_33 => ?_)
      · refine lv_iconst (v := 0) hx hb dX3_isAhead_40 (by decide) ?_
        exact rt_Z hx hb hr hlk hK hP hD hS rfl ⟨Eq.symm (Eq.trans (if_pos c_12) (Eq.trans (if_neg c_28) (Eq.trans (if_pos c_33) (rfl)))), rfl⟩ dX3_isAhead_41
      · refine lv_iconst (v := 1) hx hb dX3_isAhead_36 (by decide) ?_
        refine lv_goto (tgt := 41) hx hb dX3_isAhead_37 (by decide) ?_
        exact rt_Z hx hb hr hlk hK hP hD hS rfl ⟨Eq.symm (Eq.trans (if_pos c_12) (Eq.trans (if_neg c_28) (Eq.trans (if_neg c_33) (rfl)))), rfl⟩ dX3_isAhead_41
  · refine lv_aload_n hx hb dX3_isAhead_15 rfl (lv_at hl 0 rfl) ?_
    refine va_get (D := D) (ci := 2) (C := RX3) (T := TX3) (N := 21) hx hb hts hinX3 hown hK hP 0 rfl rfl 0 (by decide) k7 (fun _ h9 => h9) rfl dX3_isAhead_16 ?_
    refine lv_iload_n hx hb dX3_isAhead_19 rfl (lv_at hl 2 rfl) ?_
    refine va_zald hx hb hK hP 1 2 rfl rfl h_u dX3_isAhead_20 ?_
    exact rt_Z hx hb hr hlk hK hP hD hS (hZ _) ⟨Eq.symm (Eq.trans (if_neg c_12) (rfl)), rfl⟩ dX3_isAhead_21

def f_X3_order_b (s : SM) (k : Int32) (y2 : Int32) (y3 : Int32) (y4 : Int32) : (Int32 × Int32 × Int32) ⊕ (Int32) := if 8 ≤ y4 then (if y3 = k then (.inr (y2)) else (let x1 := y2 + 1; if 8 ≤ x1 then (.inr ((-1))) else (.inl (x1, 0, 0)))) else (if y4 = y2 then (let x2 := y3 + 0; let x3 := y4 + 1; .inl (y2, x2, x3)) else (if (f_X3_isAhead s y4 y2) = 0 then (let x4 := y3 + 0; let x5 := y4 + 1; .inl (y2, x4, x5)) else (let x6 := y3 + 1; let x7 := y4 + 1; .inl (y2, x6, x7))))
def f_X3_order (s : SM) (k : Int32) : Int32 := lp (fun x : Int32 × Int32 × Int32 => f_X3_order_b s k x.1 x.2.1 x.2.2) (0 : Int32) 72 (0, 0, 0)
set_option maxHeartbeats 4000000 in
set_option maxRecDepth 100000 in
theorem c_X3_order (l : Launch) (D : va_G) (K : ClassId × ClassId × ClassId) (a : Nat → Nat) (s : SM) (k : Int32)  (hZ : ∀ k : Nat, narrow .boolean (.int (gM_Z s k)) = .int (gM_Z s k)) : MetI l yX3_order wsX3_order { frames := 2, cells := 0, slots := 0, locals := 43 } D vwCl (tyK K) (wM K a) [.ref (a 0), .int k] s (f_X3_order s k) s := by
  intro sz0
  refine en_W (cc := cX3_order) (maxL := 5) (ret := (some .int)) (Qc := fun A => va_Qi (fun (x0 : Int32) (u0 : SM) => x0 = f_X3_order s k ∧ u0 = s) (bs_a D vwCl (tyK K) (wM K a) A) A) (by decide) rfl (Nat.le_of_ble_eq_true rfl) ?_ sz0
  intro p e st m below meth c ls A hx hb hr hml hts hown hlk hA hK hP hD hS hl
  have hown : st.vm.findClass RX3 = some m.cls := hown
  have hl : lv_has ls 5 [(0, .ref (a 0)), (1, .int k)] := hl
  have loop : ∀ (fu : Nat) (i : Nat) (j : Nat) (y2 : Int32) (y3 : Int32) (y4 : Int32) (H : Heap) (locs : List Loc) (ls : Array Slot), y2 = nI i → y4 = nI j → 9 * i + j + fu = 72 → i ≤ 7 → j ≤ 8 → lp (fun x : Int32 × Int32 × Int32 => f_X3_order_b s k x.1 x.2.1 x.2.2) (0 : Int32) fu (y2, y3, y4) = f_X3_order s k → va_P D vwCl (wM K a s) H → va_D A (wM K a s) → va_S A st.heap H locs → lv_has ls 5 [(0, .ref (a 0)), (1, .int k), (2, .int y2), (3, .int y3), (4, .int y4)] → W p l e { frames := 2, cells := 0, slots := 0, locals := 43 } st m ([.ref (a 0), .int k] : List Value).toArray below meth c H locs 0 0 (MQ below (va_Qi (fun (x0 : Int32) (u0 : SM) => x0 = f_X3_order s k ∧ u0 = s) (bs_a D vwCl (tyK K) (wM K a) A) A) ([.ref (a 0), .int k] : List Value).toArray st 0 0 A) (F0 m 13 ls []) := by
    intro fu
    induction fu with
    | zero =>
      intro i j y2 y3 y4 H locs ls hi hj hn h7 h8 hF hP hD hS hl
      exfalso; omega
    | succ fu ih =>
      intro i j y2 y3 y4 H locs ls hi hj hn h7 h8 hF hP hD hS hl
      have hy : ¬ 8 ≤ y4 → vp_in y4 8 := fun h => in_of (by rw [hj]; exact nI_pos (by omega)) h rfl (by decide)
      have hy2 : vp_in y2 8 := by rw [hi]; exact nI_in (by omega) (by decide)
      refine lv_iload hx hb dX3_order_13 (lv_at hl 4 rfl) ?_
      refine lv_bipush (v := 8) hx hb dX3_order_15 (by decide) ?_
      refine lv_icmp_ge (tgt := 50) hx hb dX3_order_17 (by decide) (fun c_17 => ?_) (fun c_17 => ?_)
      · refine lv_iload_n hx hb dX3_order_50 rfl (lv_at hl 3 rfl) ?_
        refine lv_iload_n hx hb dX3_order_51 rfl (lv_at hl 1 rfl) ?_
        refine lv_icmp_ne (tgt := 57) hx hb dX3_order_52 (by decide) (fun c_52 => ?_) (fun c_52 => ?_)
        · obtain ⟨x1, ex1⟩ : ∃ yy : Int32, y2 + 1 = yy := ⟨_, rfl⟩
          refine lv_iinc (v := x1) (lv' := [(2, .int x1), (0, .ref (a 0)), (1, .int k), (3, .int y3), (4, .int y4)]) hx hb dX3_order_57 hl (k := 2) rfl (by rw [← ex1]; rfl) (by decide) rfl (fun ls hl => ?_)
          refine lv_goto (tgt := 2) hx hb dX3_order_60 (by decide) ?_
          refine lv_iload_n hx hb dX3_order_2 rfl (lv_at hl 0 rfl) ?_
          refine lv_bipush (v := 8) hx hb dX3_order_3 (by decide) ?_
          refine lv_icmp_ge (tgt := 63) hx hb dX3_order_5 (by decide) (fun c_5 => ?_) (fun c_5 => ?_)
          · refine lv_iconst (v := (-1)) hx hb dX3_order_63 (by decide) ?_
            subst ex1
            exact rt_I hx hb hr hlk hK hP hD hS ⟨lpr hF (Eq.trans (if_pos c_17) (Eq.trans (if_neg c_52) (Eq.trans (if_pos c_5) (rfl)))), rfl⟩ dX3_order_64
          · refine lv_iconst (v := 0) hx hb dX3_order_8 (by decide) ?_
            refine lv_istore_n (lv' := [(3, .int 0), (2, .int x1), (0, .ref (a 0)), (1, .int k), (4, .int y4)]) hx hb dX3_order_9 rfl hl (by decide) rfl (fun ls hl => ?_)
            refine lv_iconst (v := 0) hx hb dX3_order_10 (by decide) ?_
            refine lv_istore (lv' := [(4, .int 0), (3, .int 0), (2, .int x1), (0, .ref (a 0)), (1, .int k)]) hx hb dX3_order_11 hl (by decide) rfl (fun ls hl => ?_)
            subst ex1
            exact ih (i + 1) (0) _ _ _ _ _ _ (by rw [hi]; exact nI_1 i) (nI_0.symm) (by rcases le_le c_17 hj (N := 8) rfl (by decide) with h | h <;> omega) (by rcases nle_lt c_5 (show y2 + 1 = nI (i + 1) by rw [hi]; exact nI_1 i) (N := 8) rfl (by decide) with h | h <;> omega) (by decide) (lpl hF (Eq.trans (if_pos c_17) (Eq.trans (if_neg c_52) (Eq.trans (if_neg c_5) (rfl))))) hP hD hS (lv_sub hl [3, 4, 2, 1, 0] rfl)
        · refine lv_iload_n hx hb dX3_order_55 rfl (lv_at hl 2 rfl) ?_
          exact rt_I hx hb hr hlk hK hP hD hS ⟨lpr hF (Eq.trans (if_pos c_17) (Eq.trans (if_pos c_52) (rfl))), rfl⟩ dX3_order_56
      · refine lv_iload_n hx hb dX3_order_20 rfl (lv_at hl 3 rfl) ?_
        refine lv_iload hx hb dX3_order_21 (lv_at hl 4 rfl) ?_
        refine lv_iload_n hx hb dX3_order_23 rfl (lv_at hl 2 rfl) ?_
        refine lv_icmp_eq (tgt := 41) hx hb dX3_order_24 (by decide) (fun c_24 => ?_) (fun c_24 => ?_)
        · refine lv_iconst (v := 0) hx hb dX3_order_41 (by decide) ?_
          refine lv_iadd hx hb dX3_order_42 ?_
          refine tpi (fun x2 ex2 => ?_)
          refine lv_istore_n (lv' := [(3, .int x2), (0, .ref (a 0)), (1, .int k), (2, .int y2), (4, .int y4)]) hx hb dX3_order_43 rfl hl (by decide) rfl (fun ls hl => ?_)
          obtain ⟨x3, ex3⟩ : ∃ yy : Int32, y4 + 1 = yy := ⟨_, rfl⟩
          refine lv_iinc (v := x3) (lv' := [(4, .int x3), (3, .int x2), (0, .ref (a 0)), (1, .int k), (2, .int y2)]) hx hb dX3_order_44 hl (k := 4) rfl (by rw [← ex3]; rfl) (by decide) rfl (fun ls hl => ?_)
          refine lv_goto (tgt := 13) hx hb dX3_order_47 (by decide) ?_
          subst ex3 ex2
          exact ih (i) (j + 1) _ _ _ _ _ _ (hi) (by rw [hj]; exact nI_1 j) (by omega) (h7) (by rcases nle_lt c_17 hj (N := 8) rfl (by decide) with h | h <;> omega) (lpl hF (Eq.trans (if_neg c_17) (Eq.trans (if_pos c_24) (rfl)))) hP hD hS (lv_sub hl [2, 3, 4, 1, 0] rfl)
        · refine lv_aload_n hx hb dX3_order_27 rfl (lv_at hl 0 rfl) ?_
          refine lv_iload hx hb dX3_order_28 (lv_at hl 4 rfl) ?_
          refine lv_iload_n hx hb dX3_order_30 rfl (lv_at hl 2 rfl) ?_
          refine cl_I (c_X3_isAhead l D K a _ _ _ (hy c_17) hy2 hZ) ⟨hx, hb, hml, hown, hts⟩ (cwV 2 hts gX3_order_X3_isAhead rfl rfl rfl (by decide +kernel) ⟨Nat.le_of_ble_eq_true rfl, Nat.le_of_ble_eq_true rfl⟩) hK hP hD hS hA rfl rfl rfl rfl hl.1 rfl (Nat.le_of_ble_eq_true rfl) (Nat.zero_le _) (Nat.zero_le _) dX3_order_31 (fun H locs hP hD hS => ?_)
          refine lv_if_eq (tgt := 41) hx hb dX3_order_34 (by decide) (fun c_34 => ?_) (fun c_34 => ?_)
          · refine lv_iconst (v := 0) hx hb dX3_order_41 (by decide) ?_
            refine lv_iadd hx hb dX3_order_42 ?_
            refine tpi (fun x4 ex4 => ?_)
            refine lv_istore_n (lv' := [(3, .int x4), (0, .ref (a 0)), (1, .int k), (2, .int y2), (4, .int y4)]) hx hb dX3_order_43 rfl hl (by decide) rfl (fun ls hl => ?_)
            obtain ⟨x5, ex5⟩ : ∃ yy : Int32, y4 + 1 = yy := ⟨_, rfl⟩
            refine lv_iinc (v := x5) (lv' := [(4, .int x5), (3, .int x4), (0, .ref (a 0)), (1, .int k), (2, .int y2)]) hx hb dX3_order_44 hl (k := 4) rfl (by rw [← ex5]; rfl) (by decide) rfl (fun ls hl => ?_)
            refine lv_goto (tgt := 13) hx hb dX3_order_47 (by decide) ?_
            subst ex5 ex4
            exact ih (i) (j + 1) _ _ _ _ _ _ (hi) (by rw [hj]; exact nI_1 j) (by omega) (h7) (by rcases nle_lt c_17 hj (N := 8) rfl (by decide) with h | h <;> omega) (lpl hF (Eq.trans (if_neg c_17) (Eq.trans (if_neg c_24) (Eq.trans (if_pos c_34) (rfl))))) hP hD hS (lv_sub hl [2, 3, 4, 1, 0] rfl)
          · refine lv_iconst (v := 1) hx hb dX3_order_37 (by decide) ?_
            refine lv_goto (tgt := 42) hx hb dX3_order_38 (by decide) ?_
            refine lv_iadd hx hb dX3_order_42 ?_
            refine tpi (fun x6 ex6 => ?_)
            refine lv_istore_n (lv' := [(3, .int x6), (0, .ref (a 0)), (1, .int k), (2, .int y2), (4, .int y4)]) hx hb dX3_order_43 rfl hl (by decide) rfl (fun ls hl => ?_)
            obtain ⟨x7, ex7⟩ : ∃ yy : Int32, y4 + 1 = yy := ⟨_, rfl⟩
            refine lv_iinc (v := x7) (lv' := [(4, .int x7), (3, .int x6), (0, .ref (a 0)), (1, .int k), (2, .int y2)]) hx hb dX3_order_44 hl (k := 4) rfl (by rw [← ex7]; rfl) (by decide) rfl (fun ls hl => ?_)
            refine lv_goto (tgt := 13) hx hb dX3_order_47 (by decide) ?_
            subst ex7 ex6
            exact ih (i) (j + 1) _ _ _ _ _ _ (hi) (by rw [hj]; exact nI_1 j) (by omega) (h7) (by rcases nle_lt c_17 hj (N := 8) rfl (by decide) with h | h <;> omega) (lpl hF (Eq.trans (if_neg c_17) (Eq.trans (if_neg c_24) (Eq.trans (if_neg c_34) (rfl))))) hP hD hS (lv_sub hl [2, 3, 4, 1, 0] rfl)
  refine lv_iconst (v := 0) hx hb dX3_order_0 (by decide) ?_
  refine lv_istore_n (lv' := [(2, .int 0), (0, .ref (a 0)), (1, .int k)]) hx hb dX3_order_1 rfl hl (by decide) rfl (fun ls hl => ?_)
  refine lv_iload_n hx hb dX3_order_2 rfl (lv_at hl 0 rfl) ?_
  refine lv_bipush (v := 8) hx hb dX3_order_3 (by decide) ?_
  refine lv_icmp_ge (tgt := 63) hx hb dX3_order_5 (by decide) (fun c8 => absurd (show (8 : Int32) ≤ (0 : Int32) from c8) (by decide)) (fun c8 => ?_)
  refine lv_iconst (v := 0) hx hb dX3_order_8 (by decide) ?_
  refine lv_istore_n (lv' := [(3, .int 0), (2, .int 0), (0, .ref (a 0)), (1, .int k)]) hx hb dX3_order_9 rfl hl (by decide) rfl (fun ls hl => ?_)
  refine lv_iconst (v := 0) hx hb dX3_order_10 (by decide) ?_
  refine lv_istore (lv' := [(4, .int 0), (3, .int 0), (2, .int 0), (0, .ref (a 0)), (1, .int k)]) hx hb dX3_order_11 hl (by decide) rfl (fun ls hl => ?_)
  exact loop 72 (0) (0) _ _ _ _ _ _ (nI_0.symm) (nI_0.symm) (rfl) (by decide) (by decide) (Eq.symm (rfl)) hP hD hS (lv_sub hl [3, 4, 2, 1, 0] rfl)
