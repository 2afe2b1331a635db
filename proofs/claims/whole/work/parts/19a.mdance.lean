def f_X3_dance_b (z : SM) (k : Int32) (y2 : Int32) (y3 : Int32) : (SM × Int32 × Int32) ⊕ (Int32 × SM) := if (k * (gM_st z)) ≤ y3 then (.inr (y2, z)) else (let x1 := y3 - y3 / (gM_st z) * (gM_st z); if (f_X3_lackOf z ((gM_FG z) (3 * x1).toNatClampNeg) ((gM_FG z) ((3 * x1) + 1).toNatClampNeg) ((gM_FG z) ((3 * x1) + 2).toNatClampNeg)) ≤ 0 then (let x3 := (f_X3_moved_C (pM_re z (f_X3_lackOf z ((gM_FG z) (3 * x1).toNatClampNeg) ((gM_FG z) ((3 * x1) + 1).toNatClampNeg) ((gM_FG z) ((3 * x1) + 2).toNatClampNeg))) ((gM_FG z) (3 * x1).toNatClampNeg) ((gM_FG z) ((3 * x1) + 1).toNatClampNeg) ((gM_FG z) ((3 * x1) + 2).toNatClampNeg)).1; let s2 := (f_X3_moved_C (pM_re z (f_X3_lackOf z ((gM_FG z) (3 * x1).toNatClampNeg) ((gM_FG z) ((3 * x1) + 1).toNatClampNeg) ((gM_FG z) ((3 * x1) + 2).toNatClampNeg))) ((gM_FG z) (3 * x1).toNatClampNeg) ((gM_FG z) ((3 * x1) + 1).toNatClampNeg) ((gM_FG z) ((3 * x1) + 2).toNatClampNeg)).2; let x4 := y2 + 1; let x5 := y3 + 1; .inl (s2, x4, x5)) else (.inr (y2, pM_en (pM_re z (f_X3_lackOf z ((gM_FG z) (3 * x1).toNatClampNeg) ((gM_FG z) ((3 * x1) + 1).toNatClampNeg) ((gM_FG z) ((3 * x1) + 2).toNatClampNeg))) x1)))
def f_X3_dance (s : SM) (k : Int32) : Int32 × SM := if k < 0 then (((-1), pM_re s 0)) else (if k ≤ 50 then (lpw (fun x : SM × Int32 × Int32 => f_X3_dance_b x.1 k x.2.1 x.2.2) ((0 : Int32), s) 2001 (pM_CG (pM_en (pM_re s 0) (-1)) (upd (upd (upd (upd (gM_CG s) (0 : Int32).toNatClampNeg 0) (1 : Int32).toNatClampNeg 0) (2 : Int32).toNatClampNeg 0) (3 : Int32).toNatClampNeg 0), 0, 0)) else (((-1), pM_re s 0)))
set_option maxHeartbeats 4000000 in
set_option maxRecDepth 100000 in
theorem c_X3_dance (l : Launch) (D : va_G) (K : ClassId × ClassId × ClassId) (a : Nat → Nat) (s : SM) (k : Int32)  (hst : ∃ j : Nat, j ≤ 40 ∧ gM_st s = nI j) : MetI l yX3_dance wsX3_dance { frames := 7, cells := 0, slots := 0, locals := 167 } D vwCl (tyK K) (wM K a) [.ref (a 0), .int k] s (f_X3_dance s k).1 (f_X3_dance s k).2 := by
  intro sz0
  refine en_W (cc := cX3_dance) (maxL := 6) (ret := (some .int)) (Qc := fun A => va_Qi (fun (x0 : Int32) (u0 : SM) => x0 = (f_X3_dance s k).1 ∧ u0 = (f_X3_dance s k).2) (bs_a D vwCl (tyK K) (wM K a) A) A) (by decide) rfl (Nat.le_of_ble_eq_true rfl) ?_ sz0
  intro p e st m below meth c ls A hx hb hr hml hts hown hlk hA hK hP hD hS hl
  have hown : st.vm.findClass RX3 = some m.cls := hown
  have hl : lv_has ls 6 [(0, .ref (a 0)), (1, .int k)] := hl
  have hinX3 : ∀ w ∈ u_ws RX3 TX3 21, w ∈ wsX3_dance := fun w h => List.mem_cons_of_mem _ (List.mem_append_right _ h)
  have k221 := hts (.fieldLink RX3 221 "PuppetBarModel" "steps" "I") (by decide +kernel)
  have k33 := hts (.fieldLink RX3 33 "PuppetBarModel" "figure" "[I") (by decide +kernel)
  have k114 := hts (.fieldLink RX3 114 "PuppetBarModel" "refusal" "I") (by decide +kernel)
  have k36 := hts (.fieldLink RX3 36 "PuppetBarModel" "changed" "[I") (by decide +kernel)
  have k224 := hts (.fieldLink RX3 224 "PuppetBarModel" "endedAt" "I") (by decide +kernel)
  have loop : ∀ (fu : Nat) (j : Nat) (i : Nat) (q : Nat) (z : SM) (y2 : Int32) (y3 : Int32) (H : Heap) (locs : List Loc) (ls : Array Slot), y3 = nI j → j + fu = 2001 → k = nI i → i ≤ 50 → gM_st z = nI q → q ≤ 40 → j ≤ i * q → lpw (fun x : SM × Int32 × Int32 => f_X3_dance_b x.1 k x.2.1 x.2.2) ((0 : Int32), s) fu (z, y2, y3) = f_X3_dance s k → va_P D vwCl (wM K a z) H → va_D A (wM K a z) → va_S A st.heap H locs → lv_has ls 6 [(0, .ref (a 0)), (1, .int k), (2, .int y2), (3, .int y3)] → W p l e { frames := 7, cells := 0, slots := 0, locals := 167 } st m ([.ref (a 0), .int k] : List Value).toArray below meth c H locs 0 0 (MQ below (va_Qi (fun (x0 : Int32) (u0 : SM) => x0 = (f_X3_dance s k).1 ∧ u0 = (f_X3_dance s k).2) (bs_a D vwCl (tyK K) (wM K a) A) A) ([.ref (a 0), .int k] : List Value).toArray st 0 0 A) (F0 m 46 ls []) := by
    intro fu
    induction fu with
    | zero =>
      intro j i q z y2 y3 H locs ls hj hn hk hi hq hq4 hjb hF hP hD hS hl
      exfalso; have := Nat.mul_le_mul hi hq4; omega
    | succ fu ih =>
      intro j i q z y2 y3 H locs ls hj hn hk hi hq hq4 hjb hF hP hD hS hl
      refine lv_iload_n hx hb dX3_dance_46 rfl (lv_at hl 3 rfl) ?_
      refine lv_iload_n hx hb dX3_dance_47 rfl (lv_at hl 1 rfl) ?_
      refine lv_aload_n hx hb dX3_dance_48 rfl (lv_at hl 0 rfl) ?_
      refine va_get (D := D) (ci := 2) (C := RX3) (T := TX3) (N := 21) hx hb hts hinX3 hown hK hP 0 rfl rfl 12 (by decide) k221 (fun _ h9 => h9) rfl dX3_dance_49 ?_
      refine lv_imul hx hb dX3_dance_52 ?_
      refine lv_icmp_ge (tgt := 168) hx hb dX3_dance_53 (by decide) (fun c_53 => ?_) (fun c_53 => ?_)
      · refine lv_iload_n hx hb dX3_dance_168 rfl (lv_at hl 2 rfl) ?_
        exact rt_I hx hb hr hlk hK hP hD hS (pr_of (lpwr hF (Eq.trans (if_pos c_53) (rfl))).symm) dX3_dance_169
      · refine lv_iload_n hx hb dX3_dance_56 rfl (lv_at hl 3 rfl) ?_
        refine lv_aload_n hx hb dX3_dance_57 rfl (lv_at hl 0 rfl) ?_
        refine va_get (D := D) (ci := 2) (C := RX3) (T := TX3) (N := 21) hx hb hts hinX3 hown hK hP 0 rfl rfl 12 (by decide) k221 (fun _ h9 => h9) rfl dX3_dance_58 ?_
        refine lv_irem hx hb dX3_dance_61 (dm_ne hq hq4 (dm_lt c_53 hj hk hq hjb)) ?_
        refine tpi (fun x1 ex1 => ?_)
        refine lv_istore (lv' := [(4, .int x1), (0, .ref (a 0)), (1, .int k), (2, .int y2), (3, .int y3)]) hx hb dX3_dance_62 hl (by decide) rfl (fun ls hl => ?_)
        refine lv_aload_n hx hb dX3_dance_64 rfl (lv_at hl 1 rfl) ?_
        refine lv_aload_n hx hb dX3_dance_65 rfl (lv_at hl 1 rfl) ?_
        refine lv_aload_n hx hb dX3_dance_66 rfl (lv_at hl 1 rfl) ?_
        refine va_get (D := D) (ci := 2) (C := RX3) (T := TX3) (N := 21) hx hb hts hinX3 hown hK hP 0 rfl rfl 13 (by decide) k33 (fun _ h9 => h9) rfl dX3_dance_67 ?_
        refine lv_iconst (v := 3) hx hb dX3_dance_70 (by decide) ?_
        refine lv_iload hx hb dX3_dance_71 (lv_at hl 0 rfl) ?_
        refine lv_imul hx hb dX3_dance_73 ?_
        refine va_iald hx hb hK hP 8 0 rfl rfl (dm_i0 ex1 hj hq hq4 (dm_lt c_53 hj hk hq hjb) hi) dX3_dance_74 ?_
        refine lv_aload_n hx hb dX3_dance_75 rfl (lv_at hl 1 rfl) ?_
        refine va_get (D := D) (ci := 2) (C := RX3) (T := TX3) (N := 21) hx hb hts hinX3 hown hK hP 0 rfl rfl 13 (by decide) k33 (fun _ h9 => h9) rfl dX3_dance_76 ?_
        refine lv_iconst (v := 3) hx hb dX3_dance_79 (by decide) ?_
        refine lv_iload hx hb dX3_dance_80 (lv_at hl 0 rfl) ?_
        refine lv_imul hx hb dX3_dance_82 ?_
        refine lv_iconst (v := 1) hx hb dX3_dance_83 (by decide) ?_
        refine lv_iadd hx hb dX3_dance_84 ?_
        refine va_iald hx hb hK hP 8 0 rfl rfl (dm_i1 ex1 hj hq hq4 (dm_lt c_53 hj hk hq hjb) hi) dX3_dance_85 ?_
        refine lv_aload_n hx hb dX3_dance_86 rfl (lv_at hl 1 rfl) ?_
        refine va_get (D := D) (ci := 2) (C := RX3) (T := TX3) (N := 21) hx hb hts hinX3 hown hK hP 0 rfl rfl 13 (by decide) k33 (fun _ h9 => h9) rfl dX3_dance_87 ?_
        refine lv_iconst (v := 3) hx hb dX3_dance_90 (by decide) ?_
        refine lv_iload hx hb dX3_dance_91 (lv_at hl 0 rfl) ?_
        refine lv_imul hx hb dX3_dance_93 ?_
        refine lv_iconst (v := 2) hx hb dX3_dance_94 (by decide) ?_
        refine lv_iadd hx hb dX3_dance_95 ?_
        refine va_iald hx hb hK hP 8 0 rfl rfl (dm_i2 ex1 hj hq hq4 (dm_lt c_53 hj hk hq hjb) hi) dX3_dance_96 ?_
        refine cl_I (c_X3_lackOf l D K a _ _ _ _ ) ⟨hx, hb, hml, hown, hts⟩ (cwV 3 hts gX3_dance_X3_lackOf rfl rfl rfl (by decide +kernel) ⟨Nat.le_of_ble_eq_true rfl, Nat.le_of_ble_eq_true rfl⟩) hK hP hD hS hA rfl rfl rfl rfl hl.1 rfl (Nat.le_of_ble_eq_true rfl) (Nat.zero_le _) (Nat.zero_le _) dX3_dance_97 (fun H locs hP hD hS => ?_)
        refine va_put (D := D) (ci := 2) (ty := .int) (C := RX3) (T := TX3) (N := 21) hx hb hts hinX3 tyX3 tyX3_ok nmX3 hown hK hP hD hS 0 rfl rfl 11 (by decide) k114 (fun _ h9 => h9) rfl (by decide +kernel) rfl rfl (Nat.le_of_ble_eq_true rfl) dX3_dance_100 (fun H locs hP hD hS => ?_)
        have hP : va_P D vwCl (wM K a (pM_re z (f_X3_lackOf z ((gM_FG z) (3 * x1).toNatClampNeg) ((gM_FG z) ((3 * x1) + 1).toNatClampNeg) ((gM_FG z) ((3 * x1) + 2).toNatClampNeg)))) H := hP
        have hD : va_D A (wM K a (pM_re z (f_X3_lackOf z ((gM_FG z) (3 * x1).toNatClampNeg) ((gM_FG z) ((3 * x1) + 1).toNatClampNeg) ((gM_FG z) ((3 * x1) + 2).toNatClampNeg)))) := hD
        refine lv_aload_n hx hb dX3_dance_103 rfl (lv_at hl 1 rfl) ?_
        refine va_get (D := D) (ci := 2) (C := RX3) (T := TX3) (N := 21) hx hb hts hinX3 hown hK hP 0 rfl rfl 11 (by decide) k114 (fun _ h9 => h9) rfl dX3_dance_104 ?_
        refine lv_if_le (tgt := 118) hx hb dX3_dance_107 (by decide) (fun c_107 => ?_) (fun c_107 => ?_)
        · refine lv_aload_n hx hb dX3_dance_118 rfl (lv_at hl 1 rfl) ?_
          refine lv_aload_n hx hb dX3_dance_119 rfl (lv_at hl 1 rfl) ?_
          refine va_get (D := D) (ci := 2) (C := RX3) (T := TX3) (N := 21) hx hb hts hinX3 hown hK hP 0 rfl rfl 13 (by decide) k33 (fun _ h9 => h9) rfl dX3_dance_120 ?_
          refine lv_iconst (v := 3) hx hb dX3_dance_123 (by decide) ?_
          refine lv_iload hx hb dX3_dance_124 (lv_at hl 0 rfl) ?_
          refine lv_imul hx hb dX3_dance_126 ?_
          refine va_iald hx hb hK hP 8 0 rfl rfl (dm_i0 ex1 hj hq hq4 (dm_lt c_53 hj hk hq hjb) hi) dX3_dance_127 ?_
          refine lv_aload_n hx hb dX3_dance_128 rfl (lv_at hl 1 rfl) ?_
          refine va_get (D := D) (ci := 2) (C := RX3) (T := TX3) (N := 21) hx hb hts hinX3 hown hK hP 0 rfl rfl 13 (by decide) k33 (fun _ h9 => h9) rfl dX3_dance_129 ?_
          refine lv_iconst (v := 3) hx hb dX3_dance_132 (by decide) ?_
          refine lv_iload hx hb dX3_dance_133 (lv_at hl 0 rfl) ?_
          refine lv_imul hx hb dX3_dance_135 ?_
          refine lv_iconst (v := 1) hx hb dX3_dance_136 (by decide) ?_
          refine lv_iadd hx hb dX3_dance_137 ?_
          refine va_iald hx hb hK hP 8 0 rfl rfl (dm_i1 ex1 hj hq hq4 (dm_lt c_53 hj hk hq hjb) hi) dX3_dance_138 ?_
          refine lv_aload_n hx hb dX3_dance_139 rfl (lv_at hl 1 rfl) ?_
          refine va_get (D := D) (ci := 2) (C := RX3) (T := TX3) (N := 21) hx hb hts hinX3 hown hK hP 0 rfl rfl 13 (by decide) k33 (fun _ h9 => h9) rfl dX3_dance_140 ?_
          refine lv_iconst (v := 3) hx hb dX3_dance_143 (by decide) ?_
          refine lv_iload hx hb dX3_dance_144 (lv_at hl 0 rfl) ?_
          refine lv_imul hx hb dX3_dance_146 ?_
          refine lv_iconst (v := 2) hx hb dX3_dance_147 (by decide) ?_
          refine lv_iadd hx hb dX3_dance_148 ?_
          refine va_iald hx hb hK hP 8 0 rfl rfl (dm_i2 ex1 hj hq hq4 (dm_lt c_53 hj hk hq hjb) hi) dX3_dance_149 ?_
          refine lv_aload_n hx hb dX3_dance_150 rfl (lv_at hl 1 rfl) ?_
          refine va_get (D := D) (ci := 2) (C := RX3) (T := TX3) (N := 21) hx hb hts hinX3 hown hK hP 0 rfl rfl 15 (by decide) k36 (fun _ h9 => h9) rfl dX3_dance_151 ?_
          refine cl_I (c_X3_moved_C l D K a _ _ _ _ (hm_of c_107).1 (hm_of c_107).2) ⟨hx, hb, hml, hown, hts⟩ (cwV 4 hts gX3_dance_X3_moved rfl rfl rfl (by decide +kernel) ⟨Nat.le_of_ble_eq_true rfl, Nat.le_of_ble_eq_true rfl⟩) hK hP hD hS hA rfl rfl rfl rfl hl.1 rfl (Nat.le_of_ble_eq_true rfl) (Nat.zero_le _) (Nat.zero_le _) dX3_dance_154 (fun H locs hP hD hS => ?_)
          obtain ⟨s2, es2⟩ : ∃ zz : SM, (f_X3_moved_C (pM_re z (f_X3_lackOf z ((gM_FG z) (3 * x1).toNatClampNeg) ((gM_FG z) ((3 * x1) + 1).toNatClampNeg) ((gM_FG z) ((3 * x1) + 2).toNatClampNeg))) ((gM_FG z) (3 * x1).toNatClampNeg) ((gM_FG z) ((3 * x1) + 1).toNatClampNeg) ((gM_FG z) ((3 * x1) + 2).toNatClampNeg)).2 = zz := ⟨_, rfl⟩
          rw [es2] at hP hD
          refine tpi (fun x3 ex3 => ?_)
          refine lv_istore (lv' := [(5, .int x3), (4, .int x1), (0, .ref (a 0)), (1, .int k), (2, .int y2), (3, .int y3)]) hx hb dX3_dance_157 hl (by decide) rfl (fun ls hl => ?_)
          obtain ⟨x4, ex4⟩ : ∃ yy : Int32, y2 + 1 = yy := ⟨_, rfl⟩
          refine lv_iinc (v := x4) (lv' := [(2, .int x4), (5, .int x3), (4, .int x1), (0, .ref (a 0)), (1, .int k), (3, .int y3)]) hx hb dX3_dance_159 hl (k := 4) rfl (by rw [← ex4]; rfl) (by decide) rfl (fun ls hl => ?_)
          obtain ⟨x5, ex5⟩ : ∃ yy : Int32, y3 + 1 = yy := ⟨_, rfl⟩
          refine lv_iinc (v := x5) (lv' := [(3, .int x5), (2, .int x4), (5, .int x3), (4, .int x1), (0, .ref (a 0)), (1, .int k)]) hx hb dX3_dance_162 hl (k := 5) rfl (by rw [← ex5]; rfl) (by decide) rfl (fun ls hl => ?_)
          refine lv_goto (tgt := 46) hx hb dX3_dance_165 (by decide) ?_
          subst ex5 ex4 es2 ex3 ex1
          exact ih (j + 1) (i) (q) _ _ _ _ _ _ (by rw [hj]; exact nI_1 j) (by omega) (hk) (hi) (by exact Eq.trans (st_mvC _ _ _ _) hq) (hq4) ((dm_lt c_53 hj hk hq hjb)) (lpwl hF (Eq.trans (if_neg c_53) (Eq.trans (if_pos c_107) (rfl)))) hP hD hS (lv_sub hl [4, 5, 1, 0] rfl)
        · refine lv_aload_n hx hb dX3_dance_110 rfl (lv_at hl 1 rfl) ?_
          refine lv_iload hx hb dX3_dance_111 (lv_at hl 0 rfl) ?_
          refine va_put (D := D) (ci := 2) (ty := .int) (C := RX3) (T := TX3) (N := 21) hx hb hts hinX3 tyX3 tyX3_ok nmX3 hown hK hP hD hS 0 rfl rfl 14 (by decide) k224 (fun _ h9 => h9) rfl (by decide +kernel) rfl rfl (Nat.le_of_ble_eq_true rfl) dX3_dance_113 (fun H locs hP hD hS => ?_)
          have hP : va_P D vwCl (wM K a (pM_en (pM_re z (f_X3_lackOf z ((gM_FG z) (3 * x1).toNatClampNeg) ((gM_FG z) ((3 * x1) + 1).toNatClampNeg) ((gM_FG z) ((3 * x1) + 2).toNatClampNeg))) x1)) H := hP
          have hD : va_D A (wM K a (pM_en (pM_re z (f_X3_lackOf z ((gM_FG z) (3 * x1).toNatClampNeg) ((gM_FG z) ((3 * x1) + 1).toNatClampNeg) ((gM_FG z) ((3 * x1) + 2).toNatClampNeg))) x1)) := hD
          refine lv_iload_n hx hb dX3_dance_116 rfl (lv_at hl 3 rfl) ?_
          subst ex1
          exact rt_I hx hb hr hlk hK hP hD hS (pr_of (lpwr hF (Eq.trans (if_neg c_53) (Eq.trans (if_neg c_107) (rfl)))).symm) dX3_dance_117
  refine lv_aload_n hx hb dX3_dance_0 rfl (lv_at hl 0 rfl) ?_
  refine lv_iconst (v := 0) hx hb dX3_dance_1 (by decide) ?_
  refine va_put (D := D) (ci := 2) (ty := .int) (C := RX3) (T := TX3) (N := 21) hx hb hts hinX3 tyX3 tyX3_ok nmX3 hown hK hP hD hS 0 rfl rfl 11 (by decide) k114 (fun _ h9 => h9) rfl (by decide +kernel) rfl rfl (Nat.le_of_ble_eq_true rfl) dX3_dance_2 (fun H locs hP hD hS => ?_)
  have hP : va_P D vwCl (wM K a (pM_re s 0)) H := hP
  have hD : va_D A (wM K a (pM_re s 0)) := hD
  refine lv_iload_n hx hb dX3_dance_5 rfl (lv_at hl 1 rfl) ?_
  refine lv_if_lt (tgt := 15) hx hb dX3_dance_6 (by decide) (fun c_6 => ?_) (fun c_6 => ?_)
  · refine lv_iconst (v := (-1)) hx hb dX3_dance_15 (by decide) ?_
    exact rt_I hx hb hr hlk hK hP hD hS (pr_of (Eq.trans (if_pos c_6) (rfl))) dX3_dance_16
  · refine lv_iload_n hx hb dX3_dance_9 rfl (lv_at hl 1 rfl) ?_
    refine lv_bipush (v := 50) hx hb dX3_dance_10 (by decide) ?_
    refine lv_icmp_le (tgt := 17) hx hb dX3_dance_12 (by decide) (fun c_12 => ?_) (fun c_12 => ?_)
    · refine lv_aload_n hx hb dX3_dance_17 rfl (lv_at hl 0 rfl) ?_
      refine lv_iconst (v := (-1)) hx hb dX3_dance_18 (by decide) ?_
      refine va_put (D := D) (ci := 2) (ty := .int) (C := RX3) (T := TX3) (N := 21) hx hb hts hinX3 tyX3 tyX3_ok nmX3 hown hK hP hD hS 0 rfl rfl 14 (by decide) k224 (fun _ h9 => h9) rfl (by decide +kernel) rfl rfl (Nat.le_of_ble_eq_true rfl) dX3_dance_19 (fun H locs hP hD hS => ?_)
      have hP : va_P D vwCl (wM K a (pM_en (pM_re s 0) (-1))) H := hP
      have hD : va_D A (wM K a (pM_en (pM_re s 0) (-1))) := hD
      refine lv_iconst (v := 0) hx hb dX3_dance_22 (by decide) ?_
      refine lv_istore_n (lv' := [(2, .int 0), (0, .ref (a 0)), (1, .int k)]) hx hb dX3_dance_23 rfl hl (by decide) rfl (fun ls hl => ?_)
      refine lv_iload_n hx hb dX3_dance_24 rfl (lv_at hl 0 rfl) ?_
      refine lv_iconst (v := 4) hx hb dX3_dance_25 (by decide) ?_
      refine lv_icmp_ge (tgt := 42) hx hb dX3_dance_26 (by decide) (fun c6 => absurd (show (4 : Int32) ≤ (0 : Int32) from c6) (by decide)) (fun c6 => ?_)
      refine lv_aload_n hx hb dX3_dance_29 rfl (lv_at hl 1 rfl) ?_
      refine va_get (D := D) (ci := 2) (C := RX3) (T := TX3) (N := 21) hx hb hts hinX3 hown hK hP 0 rfl rfl 15 (by decide) k36 (fun _ h9 => h9) rfl dX3_dance_30 ?_
      refine lv_iload_n hx hb dX3_dance_33 rfl (lv_at hl 0 rfl) ?_
      refine lv_iconst (v := 0) hx hb dX3_dance_34 (by decide) ?_
      refine va_iast hx hb hK hP hD hS 9 0 rfl rfl (by unfold vp_in; decide) dX3_dance_35 (fun H locs hP hD hS => ?_)
      have hP : va_P D vwCl (wM K a (pM_CG (pM_en (pM_re s 0) (-1)) (upd (gM_CG s) (0 : Int32).toNatClampNeg 0))) H := hP
      have hD : va_D A (wM K a (pM_CG (pM_en (pM_re s 0) (-1)) (upd (gM_CG s) (0 : Int32).toNatClampNeg 0))) := hD
      refine lv_iinc (v := 1) (lv' := [(2, .int 1), (0, .ref (a 0)), (1, .int k)]) hx hb dX3_dance_36 hl (k := 0) rfl (by decide) (by decide) rfl (fun ls hl => ?_)
      refine lv_goto (tgt := 24) hx hb dX3_dance_39 (by decide) ?_
      refine lv_iload_n hx hb dX3_dance_24 rfl (lv_at hl 0 rfl) ?_
      refine lv_iconst (v := 4) hx hb dX3_dance_25 (by decide) ?_
      refine lv_icmp_ge (tgt := 42) hx hb dX3_dance_26 (by decide) (fun c7 => absurd (show (4 : Int32) ≤ (1 : Int32) from c7) (by decide)) (fun c7 => ?_)
      refine lv_aload_n hx hb dX3_dance_29 rfl (lv_at hl 1 rfl) ?_
      refine va_get (D := D) (ci := 2) (C := RX3) (T := TX3) (N := 21) hx hb hts hinX3 hown hK hP 0 rfl rfl 15 (by decide) k36 (fun _ h9 => h9) rfl dX3_dance_30 ?_
      refine lv_iload_n hx hb dX3_dance_33 rfl (lv_at hl 0 rfl) ?_
      refine lv_iconst (v := 0) hx hb dX3_dance_34 (by decide) ?_
      refine va_iast hx hb hK hP hD hS 9 0 rfl rfl (by unfold vp_in; decide) dX3_dance_35 (fun H locs hP hD hS => ?_)
      have hP : va_P D vwCl (wM K a (pM_CG (pM_en (pM_re s 0) (-1)) (upd (upd (gM_CG s) (0 : Int32).toNatClampNeg 0) (1 : Int32).toNatClampNeg 0))) H := hP
      have hD : va_D A (wM K a (pM_CG (pM_en (pM_re s 0) (-1)) (upd (upd (gM_CG s) (0 : Int32).toNatClampNeg 0) (1 : Int32).toNatClampNeg 0))) := hD
      refine lv_iinc (v := 2) (lv' := [(2, .int 2), (0, .ref (a 0)), (1, .int k)]) hx hb dX3_dance_36 hl (k := 0) rfl (by decide) (by decide) rfl (fun ls hl => ?_)
      refine lv_goto (tgt := 24) hx hb dX3_dance_39 (by decide) ?_
      refine lv_iload_n hx hb dX3_dance_24 rfl (lv_at hl 0 rfl) ?_
      refine lv_iconst (v := 4) hx hb dX3_dance_25 (by decide) ?_
      refine lv_icmp_ge (tgt := 42) hx hb dX3_dance_26 (by decide) (fun c8 => absurd (show (4 : Int32) ≤ (2 : Int32) from c8) (by decide)) (fun c8 => ?_)
      refine lv_aload_n hx hb dX3_dance_29 rfl (lv_at hl 1 rfl) ?_
      refine va_get (D := D) (ci := 2) (C := RX3) (T := TX3) (N := 21) hx hb hts hinX3 hown hK hP 0 rfl rfl 15 (by decide) k36 (fun _ h9 => h9) rfl dX3_dance_30 ?_
      refine lv_iload_n hx hb dX3_dance_33 rfl (lv_at hl 0 rfl) ?_
      refine lv_iconst (v := 0) hx hb dX3_dance_34 (by decide) ?_
      refine va_iast hx hb hK hP hD hS 9 0 rfl rfl (by unfold vp_in; decide) dX3_dance_35 (fun H locs hP hD hS => ?_)
      have hP : va_P D vwCl (wM K a (pM_CG (pM_en (pM_re s 0) (-1)) (upd (upd (upd (gM_CG s) (0 : Int32).toNatClampNeg 0) (1 : Int32).toNatClampNeg 0) (2 : Int32).toNatClampNeg 0))) H := hP
      have hD : va_D A (wM K a (pM_CG (pM_en (pM_re s 0) (-1)) (upd (upd (upd (gM_CG s) (0 : Int32).toNatClampNeg 0) (1 : Int32).toNatClampNeg 0) (2 : Int32).toNatClampNeg 0))) := hD
      refine lv_iinc (v := 3) (lv' := [(2, .int 3), (0, .ref (a 0)), (1, .int k)]) hx hb dX3_dance_36 hl (k := 0) rfl (by decide) (by decide) rfl (fun ls hl => ?_)
      refine lv_goto (tgt := 24) hx hb dX3_dance_39 (by decide) ?_
      refine lv_iload_n hx hb dX3_dance_24 rfl (lv_at hl 0 rfl) ?_
      refine lv_iconst (v := 4) hx hb dX3_dance_25 (by decide) ?_
      refine lv_icmp_ge (tgt := 42) hx hb dX3_dance_26 (by decide) (fun c9 => absurd (show (4 : Int32) ≤ (3 : Int32) from c9) (by decide)) (fun c9 => ?_)
      refine lv_aload_n hx hb dX3_dance_29 rfl (lv_at hl 1 rfl) ?_
      refine va_get (D := D) (ci := 2) (C := RX3) (T := TX3) (N := 21) hx hb hts hinX3 hown hK hP 0 rfl rfl 15 (by decide) k36 (fun _ h9 => h9) rfl dX3_dance_30 ?_
      refine lv_iload_n hx hb dX3_dance_33 rfl (lv_at hl 0 rfl) ?_
      refine lv_iconst (v := 0) hx hb dX3_dance_34 (by decide) ?_
      refine va_iast hx hb hK hP hD hS 9 0 rfl rfl (by unfold vp_in; decide) dX3_dance_35 (fun H locs hP hD hS => ?_)
      have hP : va_P D vwCl (wM K a (pM_CG (pM_en (pM_re s 0) (-1)) (upd (upd (upd (upd (gM_CG s) (0 : Int32).toNatClampNeg 0) (1 : Int32).toNatClampNeg 0) (2 : Int32).toNatClampNeg 0) (3 : Int32).toNatClampNeg 0))) H := hP
      have hD : va_D A (wM K a (pM_CG (pM_en (pM_re s 0) (-1)) (upd (upd (upd (upd (gM_CG s) (0 : Int32).toNatClampNeg 0) (1 : Int32).toNatClampNeg 0) (2 : Int32).toNatClampNeg 0) (3 : Int32).toNatClampNeg 0))) := hD
      refine lv_iinc (v := 4) (lv' := [(2, .int 4), (0, .ref (a 0)), (1, .int k)]) hx hb dX3_dance_36 hl (k := 0) rfl (by decide) (by decide) rfl (fun ls hl => ?_)
      refine lv_goto (tgt := 24) hx hb dX3_dance_39 (by decide) ?_
      refine lv_iload_n hx hb dX3_dance_24 rfl (lv_at hl 0 rfl) ?_
      refine lv_iconst (v := 4) hx hb dX3_dance_25 (by decide) ?_
      refine lv_icmp_ge (tgt := 42) hx hb dX3_dance_26 (by decide) (fun c10 => ?_) (fun c10 => absurd (show (4 : Int32) ≤ (4 : Int32) by decide) (show ¬ (4 : Int32) ≤ (4 : Int32) from c10))
      refine lv_iconst (v := 0) hx hb dX3_dance_42 (by decide) ?_
      refine lv_istore_n (lv' := [(2, .int 0), (0, .ref (a 0)), (1, .int k)]) hx hb dX3_dance_43 rfl hl (by decide) rfl (fun ls hl => ?_)
      refine lv_iconst (v := 0) hx hb dX3_dance_44 (by decide) ?_
      refine lv_istore_n (lv' := [(3, .int 0), (2, .int 0), (0, .ref (a 0)), (1, .int k)]) hx hb dX3_dance_45 rfl hl (by decide) rfl (fun ls hl => ?_)
      obtain ⟨i, hi, hk⟩ := nI_of2 (n := 50) (by decide) c_6 c_12
      obtain ⟨q, hq4, hq⟩ := hst
      exact loop 2001 (0) (i) (q) (pM_CG (pM_en (pM_re s 0) (-1)) (upd (upd (upd (upd (gM_CG s) (0 : Int32).toNatClampNeg 0) (1 : Int32).toNatClampNeg 0) (2 : Int32).toNatClampNeg 0) (3 : Int32).toNatClampNeg 0)) _ _ _ _ _ (nI_0.symm) (rfl) (hk) (hi) (hq) (hq4) (Nat.zero_le _) (Eq.symm (Eq.trans (if_neg c_6) (Eq.trans (if_pos c_12) (rfl)))) hP hD hS (lv_sub hl [2, 3, 1, 0] rfl)
    · refine lv_iconst (v := (-1)) hx hb dX3_dance_15 (by decide) ?_
      exact rt_I hx hb hr hlk hK hP hD hS (pr_of (Eq.trans (if_neg c_6) (Eq.trans (if_neg c_12) (rfl)))) dX3_dance_16
