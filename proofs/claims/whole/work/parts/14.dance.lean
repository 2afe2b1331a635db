def f_X2_danceOnce_b (z : SB)  (y1 : Int32) : (SB × Int32) ⊕ (Int32 × SB) := if (gB_sz z) ≤ y1 then (.inr (gB_sz z, z)) else (if 40 ≤ y1 then (.inr (gB_sz z, z)) else (if (f_X2_refusalOfMove z ((gB_MV z) y1.toNatClampNeg) ((gB_TH z) y1.toNatClampNeg) ((gB_OT z) y1.toNatClampNeg)) = 0 then (let s1 := f_X2_perform (pB_re z (f_X2_refusalOfMove z ((gB_MV z) y1.toNatClampNeg) ((gB_TH z) y1.toNatClampNeg) ((gB_OT z) y1.toNatClampNeg))) ((gB_MV z) y1.toNatClampNeg) ((gB_TH z) y1.toNatClampNeg) ((gB_OT z) y1.toNatClampNeg); let x2 := y1 + 1; .inl (s1, x2)) else (.inr (y1, pB_re z (f_X2_refusalOfMove z ((gB_MV z) y1.toNatClampNeg) ((gB_TH z) y1.toNatClampNeg) ((gB_OT z) y1.toNatClampNeg))))))
def f_X2_danceOnce (s : SB)  : Int32 × SB := lp (fun x : SB × Int32 => f_X2_danceOnce_b x.1  x.2) ((0 : Int32), s) 41 (s, 0)
set_option maxHeartbeats 4000000 in
set_option maxRecDepth 100000 in
theorem c_X2_danceOnce (l : Launch) (D : va_G) (K : ClassId × ClassId × ClassId) (a : Nat → Nat) (s : SB)    : MetI l yX2_danceOnce wsX2_danceOnce { frames := 5, cells := 0, slots := 0, locals := 123 } D vwCl (tyK K) (wB K a) [.ref (a 0)] s (f_X2_danceOnce s ).1 (f_X2_danceOnce s ).2 := by
  intro sz0
  refine en_W (cc := cX2_danceOnce) (maxL := 2) (ret := (some .int)) (Qc := fun A => va_Qi (fun (x0 : Int32) (u0 : SB) => x0 = (f_X2_danceOnce s ).1 ∧ u0 = (f_X2_danceOnce s ).2) (bs_a D vwCl (tyK K) (wB K a) A) A) (by decide) rfl (Nat.le_of_ble_eq_true rfl) ?_ sz0
  intro p e st m below meth c ls A hx hb hr hml hts hown hlk hA hK hP hD hS hl
  have hown : st.vm.findClass RX2 = some m.cls := hown
  have hl : lv_has ls 2 [(0, .ref (a 0))] := hl
  have hinX0 : ∀ w ∈ u_ws RX0 TX0 4, w ∈ wsX2_danceOnce := fun w h => List.mem_cons_of_mem _ (List.mem_append_right _ h)
  have hinX2 : ∀ w ∈ u_ws RX2 TX2 15, w ∈ wsX2_danceOnce := fun w h => List.mem_cons_of_mem _ (List.mem_append_left _ (List.mem_append_right _ h))
  have k50 := hts (.fieldLink RX2 50 "PuppetBar" "figure" "LPuppetBar$Figure;") (by decide +kernel)
  have k101 := hts (.fieldLink RX2 101 "PuppetBar$Figure" "size" "I") (by decide +kernel)
  have k104 := hts (.fieldLink RX2 104 "PuppetBar$Figure" "moves" "[I") (by decide +kernel)
  have k107 := hts (.fieldLink RX2 107 "PuppetBar$Figure" "threads" "[I") (by decide +kernel)
  have k110 := hts (.fieldLink RX2 110 "PuppetBar$Figure" "others" "[I") (by decide +kernel)
  have k54 := hts (.fieldLink RX2 54 "PuppetBar" "refusal" "I") (by decide +kernel)
  have loop : ∀ (fu : Nat) (j : Nat) (z : SB) (y1 : Int32) (H : Heap) (locs : List Loc) (ls : Array Slot), y1 = nI j → j + fu = 41 → j ≤ 40 → lp (fun x : SB × Int32 => f_X2_danceOnce_b x.1  x.2) ((0 : Int32), s) fu (z, y1) = f_X2_danceOnce s  → va_P D vwCl (wB K a z) H → va_D A (wB K a z) → va_S A st.heap H locs → lv_has ls 2 [(0, .ref (a 0)), (1, .int y1)] → W p l e { frames := 5, cells := 0, slots := 0, locals := 123 } st m ([.ref (a 0)] : List Value).toArray below meth c H locs 0 0 (MQ below (va_Qi (fun (x0 : Int32) (u0 : SB) => x0 = (f_X2_danceOnce s ).1 ∧ u0 = (f_X2_danceOnce s ).2) (bs_a D vwCl (tyK K) (wB K a) A) A) ([.ref (a 0)] : List Value).toArray st 0 0 A) (F0 m 2 ls []) := by
    intro fu
    induction fu with
    | zero =>
      intro j z y1 H locs ls hj hn h8 hF hP hD hS hl
      exfalso; omega
    | succ fu ih =>
      intro j z y1 H locs ls hj hn h8 hF hP hD hS hl
      have hy : ¬ 40 ≤ y1 → vp_in y1 40 := fun h => in_of (by rw [hj]; exact nI_pos (by omega)) h rfl (by decide)
      refine lv_iload_n hx hb dX2_danceOnce_2 rfl (lv_at hl 1 rfl) ?_
      refine lv_aload_n hx hb dX2_danceOnce_3 rfl (lv_at hl 0 rfl) ?_
      refine va_get (D := D) (ci := 1) (C := RX2) (T := TX2) (N := 15) hx hb hts hinX2 hown hK hP 0 rfl rfl 11 (by decide) k50 (fun _ h9 => h9) rfl dX2_danceOnce_4 ?_
      refine va_get (D := D) (ci := 0) (C := RX0) (T := TX0) (N := 4) hx hb hts hinX0 hown hK hP 8 rfl rfl 3 (by decide) k101 (fun _ h9 => h9) rfl dX2_danceOnce_7 ?_
      refine lv_icmp_ge (tgt := 100) hx hb dX2_danceOnce_10 (by decide) (fun c_10 => ?_) (fun c_10 => ?_)
      · refine lv_aload_n hx hb dX2_danceOnce_100 rfl (lv_at hl 0 rfl) ?_
        refine va_get (D := D) (ci := 1) (C := RX2) (T := TX2) (N := 15) hx hb hts hinX2 hown hK hP 0 rfl rfl 11 (by decide) k50 (fun _ h9 => h9) rfl dX2_danceOnce_101 ?_
        refine va_get (D := D) (ci := 0) (C := RX0) (T := TX0) (N := 4) hx hb hts hinX0 hown hK hP 8 rfl rfl 3 (by decide) k101 (fun _ h9 => h9) rfl dX2_danceOnce_104 ?_
        exact rt_I hx hb hr hlk hK hP hD hS (pr_of (lpr hF (Eq.trans (if_pos c_10) (rfl))).symm) dX2_danceOnce_107
      · refine lv_iload_n hx hb dX2_danceOnce_13 rfl (lv_at hl 1 rfl) ?_
        refine lv_bipush (v := 40) hx hb dX2_danceOnce_14 (by decide) ?_
        refine lv_icmp_ge (tgt := 100) hx hb dX2_danceOnce_16 (by decide) (fun c_16 => ?_) (fun c_16 => ?_)
        · refine lv_aload_n hx hb dX2_danceOnce_100 rfl (lv_at hl 0 rfl) ?_
          refine va_get (D := D) (ci := 1) (C := RX2) (T := TX2) (N := 15) hx hb hts hinX2 hown hK hP 0 rfl rfl 11 (by decide) k50 (fun _ h9 => h9) rfl dX2_danceOnce_101 ?_
          refine va_get (D := D) (ci := 0) (C := RX0) (T := TX0) (N := 4) hx hb hts hinX0 hown hK hP 8 rfl rfl 3 (by decide) k101 (fun _ h9 => h9) rfl dX2_danceOnce_104 ?_
          exact rt_I hx hb hr hlk hK hP hD hS (pr_of (lpr hF (Eq.trans (if_neg c_10) (Eq.trans (if_pos c_16) (rfl)))).symm) dX2_danceOnce_107
        · refine lv_aload_n hx hb dX2_danceOnce_19 rfl (lv_at hl 0 rfl) ?_
          refine lv_aload_n hx hb dX2_danceOnce_20 rfl (lv_at hl 0 rfl) ?_
          refine lv_aload_n hx hb dX2_danceOnce_21 rfl (lv_at hl 0 rfl) ?_
          refine va_get (D := D) (ci := 1) (C := RX2) (T := TX2) (N := 15) hx hb hts hinX2 hown hK hP 0 rfl rfl 11 (by decide) k50 (fun _ h9 => h9) rfl dX2_danceOnce_22 ?_
          refine va_get (D := D) (ci := 0) (C := RX0) (T := TX0) (N := 4) hx hb hts hinX0 hown hK hP 8 rfl rfl 0 (by decide) k104 (fun _ h9 => h9) rfl dX2_danceOnce_25 ?_
          refine lv_iload_n hx hb dX2_danceOnce_28 rfl (lv_at hl 1 rfl) ?_
          refine va_iald hx hb hK hP 11 0 rfl rfl (hy c_16) dX2_danceOnce_29 ?_
          refine lv_aload_n hx hb dX2_danceOnce_30 rfl (lv_at hl 0 rfl) ?_
          refine va_get (D := D) (ci := 1) (C := RX2) (T := TX2) (N := 15) hx hb hts hinX2 hown hK hP 0 rfl rfl 11 (by decide) k50 (fun _ h9 => h9) rfl dX2_danceOnce_31 ?_
          refine va_get (D := D) (ci := 0) (C := RX0) (T := TX0) (N := 4) hx hb hts hinX0 hown hK hP 8 rfl rfl 1 (by decide) k107 (fun _ h9 => h9) rfl dX2_danceOnce_34 ?_
          refine lv_iload_n hx hb dX2_danceOnce_37 rfl (lv_at hl 1 rfl) ?_
          refine va_iald hx hb hK hP 12 0 rfl rfl (hy c_16) dX2_danceOnce_38 ?_
          refine lv_aload_n hx hb dX2_danceOnce_39 rfl (lv_at hl 0 rfl) ?_
          refine va_get (D := D) (ci := 1) (C := RX2) (T := TX2) (N := 15) hx hb hts hinX2 hown hK hP 0 rfl rfl 11 (by decide) k50 (fun _ h9 => h9) rfl dX2_danceOnce_40 ?_
          refine va_get (D := D) (ci := 0) (C := RX0) (T := TX0) (N := 4) hx hb hts hinX0 hown hK hP 8 rfl rfl 2 (by decide) k110 (fun _ h9 => h9) rfl dX2_danceOnce_43 ?_
          refine lv_iload_n hx hb dX2_danceOnce_46 rfl (lv_at hl 1 rfl) ?_
          refine va_iald hx hb hK hP 13 0 rfl rfl (hy c_16) dX2_danceOnce_47 ?_
          refine cl_I (c_X2_refusalOfMove l D K a _ _ _ _ ) ⟨hx, hb, hml, hown, hts⟩ (cwV 3 hts gX2_danceOnce_X2_refusalOfMove rfl rfl rfl (by decide +kernel) ⟨Nat.le_of_ble_eq_true rfl, Nat.le_of_ble_eq_true rfl⟩) hK hP hD hS hA rfl rfl rfl rfl hl.1 rfl (Nat.le_of_ble_eq_true rfl) (Nat.zero_le _) (Nat.zero_le _) dX2_danceOnce_48 (fun H locs hP hD hS => ?_)
          refine va_put (D := D) (ci := 1) (ty := .int) (C := RX2) (T := TX2) (N := 15) hx hb hts hinX2 tyX2 tyX2_ok nmX2 hown hK hP hD hS 0 rfl rfl 12 (by decide) k54 (fun _ h9 => h9) rfl (by decide +kernel) rfl rfl (Nat.le_of_ble_eq_true rfl) dX2_danceOnce_51 (fun H locs hP hD hS => ?_)
          have hP : va_P D vwCl (wB K a (pB_re z (f_X2_refusalOfMove z ((gB_MV z) y1.toNatClampNeg) ((gB_TH z) y1.toNatClampNeg) ((gB_OT z) y1.toNatClampNeg)))) H := hP
          have hD : va_D A (wB K a (pB_re z (f_X2_refusalOfMove z ((gB_MV z) y1.toNatClampNeg) ((gB_TH z) y1.toNatClampNeg) ((gB_OT z) y1.toNatClampNeg)))) := hD
          refine lv_aload_n hx hb dX2_danceOnce_54 rfl (lv_at hl 0 rfl) ?_
          refine va_get (D := D) (ci := 1) (C := RX2) (T := TX2) (N := 15) hx hb hts hinX2 hown hK hP 0 rfl rfl 12 (by decide) k54 (fun _ h9 => h9) rfl dX2_danceOnce_55 ?_
          refine lv_if_eq (tgt := 63) hx hb dX2_danceOnce_58 (by decide) (fun c_58 => ?_) (fun c_58 => ?_)
          · refine lv_aload_n hx hb dX2_danceOnce_63 rfl (lv_at hl 0 rfl) ?_
            refine lv_aload_n hx hb dX2_danceOnce_64 rfl (lv_at hl 0 rfl) ?_
            refine va_get (D := D) (ci := 1) (C := RX2) (T := TX2) (N := 15) hx hb hts hinX2 hown hK hP 0 rfl rfl 11 (by decide) k50 (fun _ h9 => h9) rfl dX2_danceOnce_65 ?_
            refine va_get (D := D) (ci := 0) (C := RX0) (T := TX0) (N := 4) hx hb hts hinX0 hown hK hP 8 rfl rfl 0 (by decide) k104 (fun _ h9 => h9) rfl dX2_danceOnce_68 ?_
            refine lv_iload_n hx hb dX2_danceOnce_71 rfl (lv_at hl 1 rfl) ?_
            refine va_iald hx hb hK hP 11 0 rfl rfl (hy c_16) dX2_danceOnce_72 ?_
            refine lv_aload_n hx hb dX2_danceOnce_73 rfl (lv_at hl 0 rfl) ?_
            refine va_get (D := D) (ci := 1) (C := RX2) (T := TX2) (N := 15) hx hb hts hinX2 hown hK hP 0 rfl rfl 11 (by decide) k50 (fun _ h9 => h9) rfl dX2_danceOnce_74 ?_
            refine va_get (D := D) (ci := 0) (C := RX0) (T := TX0) (N := 4) hx hb hts hinX0 hown hK hP 8 rfl rfl 1 (by decide) k107 (fun _ h9 => h9) rfl dX2_danceOnce_77 ?_
            refine lv_iload_n hx hb dX2_danceOnce_80 rfl (lv_at hl 1 rfl) ?_
            refine va_iald hx hb hK hP 12 0 rfl rfl (hy c_16) dX2_danceOnce_81 ?_
            refine lv_aload_n hx hb dX2_danceOnce_82 rfl (lv_at hl 0 rfl) ?_
            refine va_get (D := D) (ci := 1) (C := RX2) (T := TX2) (N := 15) hx hb hts hinX2 hown hK hP 0 rfl rfl 11 (by decide) k50 (fun _ h9 => h9) rfl dX2_danceOnce_83 ?_
            refine va_get (D := D) (ci := 0) (C := RX0) (T := TX0) (N := 4) hx hb hts hinX0 hown hK hP 8 rfl rfl 2 (by decide) k110 (fun _ h9 => h9) rfl dX2_danceOnce_86 ?_
            refine lv_iload_n hx hb dX2_danceOnce_89 rfl (lv_at hl 1 rfl) ?_
            refine va_iald hx hb hK hP 13 0 rfl rfl (hy c_16) dX2_danceOnce_90 ?_
            refine cl_V (c_X2_perform l D K a _ _ _ _ (hb_move c_58).1 (hb_move c_58).2) ⟨hx, hb, hml, hown, hts⟩ (cwV 3 hts gX2_danceOnce_X2_perform rfl rfl rfl (by decide +kernel) ⟨Nat.le_of_ble_eq_true rfl, Nat.le_of_ble_eq_true rfl⟩) hK hP hD hS hA rfl rfl rfl rfl hl.1 rfl (Nat.le_of_ble_eq_true rfl) (Nat.zero_le _) (Nat.zero_le _) dX2_danceOnce_91 (fun H locs hP hD hS => ?_)
            obtain ⟨s1, es1⟩ : ∃ zz : SB, f_X2_perform (pB_re z (f_X2_refusalOfMove z ((gB_MV z) y1.toNatClampNeg) ((gB_TH z) y1.toNatClampNeg) ((gB_OT z) y1.toNatClampNeg))) ((gB_MV z) y1.toNatClampNeg) ((gB_TH z) y1.toNatClampNeg) ((gB_OT z) y1.toNatClampNeg) = zz := ⟨_, rfl⟩
            rw [es1] at hP hD
            obtain ⟨x2, ex2⟩ : ∃ yy : Int32, y1 + 1 = yy := ⟨_, rfl⟩
            refine lv_iinc (v := x2) (lv' := [(1, .int x2), (0, .ref (a 0))]) hx hb dX2_danceOnce_94 hl (k := 1) rfl (by rw [← ex2]; rfl) (by decide) rfl (fun ls hl => ?_)
            refine lv_goto (tgt := 2) hx hb dX2_danceOnce_97 (by decide) ?_
            subst ex2 es1
            exact ih (j + 1) _ _ _ _ _ (by rw [hj]; exact nI_1 j) (by omega) (by rcases nle_lt c_16 hj (N := 40) rfl (by decide) with h | h <;> omega) (lpl hF (Eq.trans (if_neg c_10) (Eq.trans (if_neg c_16) (Eq.trans (if_pos c_58) (rfl))))) hP hD hS (lv_sub hl [1, 0] rfl)
          · refine lv_iload_n hx hb dX2_danceOnce_61 rfl (lv_at hl 1 rfl) ?_
            exact rt_I hx hb hr hlk hK hP hD hS (pr_of (lpr hF (Eq.trans (if_neg c_10) (Eq.trans (if_neg c_16) (Eq.trans (if_neg c_58) (rfl))))).symm) dX2_danceOnce_62
  refine lv_iconst (v := 0) hx hb dX2_danceOnce_0 (by decide) ?_
  refine lv_istore_n (lv' := [(1, .int 0), (0, .ref (a 0))]) hx hb dX2_danceOnce_1 rfl hl (by decide) rfl (fun ls hl => ?_)
  exact loop 41 (0) _ _ _ _ _ (nI_0.symm) (rfl) (by decide) (Eq.symm (rfl)) hP hD hS (lv_sub hl [1, 0] rfl)

def f_X2_dance_b (z : SB) (k : Int32) (y2 : Int32) (y3 : Int32) (y4 : Int32) : (SB × Int32 × Int32 × Int32) ⊕ (Int32 × SB) := if k ≤ y4 then (let s1 := f_X2_keepDance z y3; .inr (y2, s1)) else (if y3 = (-1) then (let x4 := (f_X2_danceOnce z ).1; let s3 := (f_X2_danceOnce z ).2; let x5 := y2 + x4; if (gB_re s3) = 0 then (let x6 := y4 + 1; .inl (s3, x5, y3, x6)) else (let x7 := y4 + 1; .inl (s3, x5, x4, x7))) else (let s2 := f_X2_keepDance z y3; .inr (y2, s2)))
def f_X2_dance (s : SB) (k : Int32) : Int32 × SB := if k < 0 then (((-1), pB_re s 0)) else (if k ≤ 50 then (let s8 := f_X2_clearChanges (pB_re s 0) ; lp (fun x : SB × Int32 × Int32 × Int32 => f_X2_dance_b x.1 k x.2.1 x.2.2.1 x.2.2.2) ((0 : Int32), s) 51 (s8, 0, (-1), 0)) else (((-1), pB_re s 0)))
set_option maxHeartbeats 4000000 in
set_option maxRecDepth 100000 in
theorem c_X2_dance (l : Launch) (D : va_G) (K : ClassId × ClassId × ClassId) (a : Nat → Nat) (s : SB) (k : Int32)   : MetI l yX2_dance wsX2_dance { frames := 6, cells := 0, slots := 0, locals := 144 } D vwCl (tyK K) (wB K a) [.ref (a 0), .int k] s (f_X2_dance s k).1 (f_X2_dance s k).2 := by
  intro sz0
  refine en_W (cc := cX2_dance) (maxL := 6) (ret := (some .int)) (Qc := fun A => va_Qi (fun (x0 : Int32) (u0 : SB) => x0 = (f_X2_dance s k).1 ∧ u0 = (f_X2_dance s k).2) (bs_a D vwCl (tyK K) (wB K a) A) A) (by decide) rfl (Nat.le_of_ble_eq_true rfl) ?_ sz0
  intro p e st m below meth c ls A hx hb hr hml hts hown hlk hA hK hP hD hS hl
  have hown : st.vm.findClass RX2 = some m.cls := hown
  have hl : lv_has ls 6 [(0, .ref (a 0)), (1, .int k)] := hl
  have hinX2 : ∀ w ∈ u_ws RX2 TX2 15, w ∈ wsX2_dance := fun w h => List.mem_cons_of_mem _ (List.mem_append_left _ (List.mem_append_right _ h))
  have k54 := hts (.fieldLink RX2 54 "PuppetBar" "refusal" "I") (by decide +kernel)
  have loop : ∀ (fu : Nat) (j : Nat) (z : SB) (y2 : Int32) (y3 : Int32) (y4 : Int32) (H : Heap) (locs : List Loc) (ls : Array Slot), y4 = nI j → j + fu = 51 → j ≤ 50 → k ≤ 50 → lp (fun x : SB × Int32 × Int32 × Int32 => f_X2_dance_b x.1 k x.2.1 x.2.2.1 x.2.2.2) ((0 : Int32), s) fu (z, y2, y3, y4) = f_X2_dance s k → va_P D vwCl (wB K a z) H → va_D A (wB K a z) → va_S A st.heap H locs → lv_has ls 6 [(0, .ref (a 0)), (1, .int k), (2, .int y2), (3, .int y3), (4, .int y4)] → W p l e { frames := 6, cells := 0, slots := 0, locals := 144 } st m ([.ref (a 0), .int k] : List Value).toArray below meth c H locs 0 0 (MQ below (va_Qi (fun (x0 : Int32) (u0 : SB) => x0 = (f_X2_dance s k).1 ∧ u0 = (f_X2_dance s k).2) (bs_a D vwCl (tyK K) (wB K a) A) A) ([.ref (a 0), .int k] : List Value).toArray st 0 0 A) (F0 m 28 ls []) := by
    intro fu
    induction fu with
    | zero =>
      intro j z y2 y3 y4 H locs ls hj hn h8 hk hF hP hD hS hl
      exfalso; omega
    | succ fu ih =>
      intro j z y2 y3 y4 H locs ls hj hn h8 hk hF hP hD hS hl
      refine lv_iload hx hb dX2_dance_28 (lv_at hl 4 rfl) ?_
      refine lv_iload_n hx hb dX2_dance_30 rfl (lv_at hl 1 rfl) ?_
      refine lv_icmp_ge (tgt := 66) hx hb dX2_dance_31 (by decide) (fun c_31 => ?_) (fun c_31 => ?_)
      · refine lv_aload_n hx hb dX2_dance_66 rfl (lv_at hl 0 rfl) ?_
        refine lv_iload_n hx hb dX2_dance_67 rfl (lv_at hl 3 rfl) ?_
        refine cl_V (c_X2_keepDance l D K a _ _ ) ⟨hx, hb, hml, hown, hts⟩ (cwV 1 hts gX2_dance_X2_keepDance rfl rfl rfl (by decide +kernel) ⟨Nat.le_of_ble_eq_true rfl, Nat.le_of_ble_eq_true rfl⟩) hK hP hD hS hA rfl rfl rfl rfl hl.1 rfl (Nat.le_of_ble_eq_true rfl) (Nat.zero_le _) (Nat.zero_le _) dX2_dance_68 (fun H locs hP hD hS => ?_)
        obtain ⟨s1, es1⟩ : ∃ zz : SB, f_X2_keepDance z y3 = zz := ⟨_, rfl⟩
        rw [es1] at hP hD
        refine lv_iload_n hx hb dX2_dance_71 rfl (lv_at hl 2 rfl) ?_
        subst es1
        exact rt_I hx hb hr hlk hK hP hD hS (pr_of (lpr hF (Eq.trans (if_pos c_31) (rfl))).symm) dX2_dance_72
      · refine lv_iload_n hx hb dX2_dance_34 rfl (lv_at hl 3 rfl) ?_
        refine lv_iconst (v := (-1)) hx hb dX2_dance_35 (by decide) ?_
        refine lv_icmp_ne (tgt := 66) hx hb dX2_dance_36 (by decide) (fun c_36 => ?_) (fun c_36 => ?_)
        · refine lv_aload_n hx hb dX2_dance_66 rfl (lv_at hl 0 rfl) ?_
          refine lv_iload_n hx hb dX2_dance_67 rfl (lv_at hl 3 rfl) ?_
          refine cl_V (c_X2_keepDance l D K a _ _ ) ⟨hx, hb, hml, hown, hts⟩ (cwV 1 hts gX2_dance_X2_keepDance rfl rfl rfl (by decide +kernel) ⟨Nat.le_of_ble_eq_true rfl, Nat.le_of_ble_eq_true rfl⟩) hK hP hD hS hA rfl rfl rfl rfl hl.1 rfl (Nat.le_of_ble_eq_true rfl) (Nat.zero_le _) (Nat.zero_le _) dX2_dance_68 (fun H locs hP hD hS => ?_)
          obtain ⟨s2, es2⟩ : ∃ zz : SB, f_X2_keepDance z y3 = zz := ⟨_, rfl⟩
          rw [es2] at hP hD
          refine lv_iload_n hx hb dX2_dance_71 rfl (lv_at hl 2 rfl) ?_
          subst es2
          exact rt_I hx hb hr hlk hK hP hD hS (pr_of (lpr hF (Eq.trans (if_neg c_31) (Eq.trans (if_neg c_36) (rfl)))).symm) dX2_dance_72
        · refine lv_aload_n hx hb dX2_dance_39 rfl (lv_at hl 0 rfl) ?_
          refine cl_I (c_X2_danceOnce l D K a _  ) ⟨hx, hb, hml, hown, hts⟩ (cwV 0 hts gX2_dance_X2_danceOnce rfl rfl rfl (by decide +kernel) ⟨Nat.le_of_ble_eq_true rfl, Nat.le_of_ble_eq_true rfl⟩) hK hP hD hS hA rfl rfl rfl rfl hl.1 rfl (Nat.le_of_ble_eq_true rfl) (Nat.zero_le _) (Nat.zero_le _) dX2_dance_40 (fun H locs hP hD hS => ?_)
          obtain ⟨s3, es3⟩ : ∃ zz : SB, (f_X2_danceOnce z ).2 = zz := ⟨_, rfl⟩
          rw [es3] at hP hD
          refine tpi (fun x4 ex4 => ?_)
          refine lv_istore (lv' := [(5, .int x4), (0, .ref (a 0)), (1, .int k), (2, .int y2), (3, .int y3), (4, .int y4)]) hx hb dX2_dance_43 hl (by decide) rfl (fun ls hl => ?_)
          refine lv_iload_n hx hb dX2_dance_45 rfl (lv_at hl 3 rfl) ?_
          refine lv_iload hx hb dX2_dance_46 (lv_at hl 0 rfl) ?_
          refine lv_iadd hx hb dX2_dance_48 ?_
          refine tpi (fun x5 ex5 => ?_)
          refine lv_istore_n (lv' := [(2, .int x5), (5, .int x4), (0, .ref (a 0)), (1, .int k), (3, .int y3), (4, .int y4)]) hx hb dX2_dance_49 rfl hl (by decide) rfl (fun ls hl => ?_)
          refine lv_aload_n hx hb dX2_dance_50 rfl (lv_at hl 2 rfl) ?_
          refine va_get (D := D) (ci := 1) (C := RX2) (T := TX2) (N := 15) hx hb hts hinX2 hown hK hP 0 rfl rfl 12 (by decide) k54 (fun _ h9 => h9) rfl dX2_dance_51 ?_
          refine lv_if_eq (tgt := 60) hx hb dX2_dance_54 (by decide) (fun c_54 => ?_) (fun c_54 => ?_)
          · obtain ⟨x6, ex6⟩ : ∃ yy : Int32, y4 + 1 = yy := ⟨_, rfl⟩
            refine lv_iinc (v := x6) (lv' := [(4, .int x6), (2, .int x5), (5, .int x4), (0, .ref (a 0)), (1, .int k), (3, .int y3)]) hx hb dX2_dance_60 hl (k := 5) rfl (by rw [← ex6]; rfl) (by decide) rfl (fun ls hl => ?_)
            refine lv_goto (tgt := 28) hx hb dX2_dance_63 (by decide) ?_
            subst ex6 ex5 es3 ex4
            exact ih (j + 1) _ _ _ _ _ _ _ (by rw [hj]; exact nI_1 j) (by omega) (by rcases nle_lt (nle_tr c_31 hk) hj (N := 50) rfl (by decide) with h | h <;> omega) (hk) (lpl hF (Eq.trans (if_neg c_31) (Eq.trans (if_pos c_36) (Eq.trans (if_pos c_54) (rfl))))) hP hD hS (lv_sub hl [3, 4, 1, 5, 0] rfl)
          · refine lv_iload hx hb dX2_dance_57 (lv_at hl 1 rfl) ?_
            refine lv_istore_n (lv' := [(3, .int x4), (2, .int x5), (5, .int x4), (0, .ref (a 0)), (1, .int k), (4, .int y4)]) hx hb dX2_dance_59 rfl hl (by decide) rfl (fun ls hl => ?_)
            obtain ⟨x7, ex7⟩ : ∃ yy : Int32, y4 + 1 = yy := ⟨_, rfl⟩
            refine lv_iinc (v := x7) (lv' := [(4, .int x7), (3, .int x4), (2, .int x5), (5, .int x4), (0, .ref (a 0)), (1, .int k)]) hx hb dX2_dance_60 hl (k := 5) rfl (by rw [← ex7]; rfl) (by decide) rfl (fun ls hl => ?_)
            refine lv_goto (tgt := 28) hx hb dX2_dance_63 (by decide) ?_
            subst ex7 ex5 es3 ex4
            exact ih (j + 1) _ _ _ _ _ _ _ (by rw [hj]; exact nI_1 j) (by omega) (by rcases nle_lt (nle_tr c_31 hk) hj (N := 50) rfl (by decide) with h | h <;> omega) (hk) (lpl hF (Eq.trans (if_neg c_31) (Eq.trans (if_pos c_36) (Eq.trans (if_neg c_54) (rfl))))) hP hD hS (lv_sub hl [4, 5, 2, 1, 0] rfl)
  refine lv_aload_n hx hb dX2_dance_0 rfl (lv_at hl 0 rfl) ?_
  refine lv_iconst (v := 0) hx hb dX2_dance_1 (by decide) ?_
  refine va_put (D := D) (ci := 1) (ty := .int) (C := RX2) (T := TX2) (N := 15) hx hb hts hinX2 tyX2 tyX2_ok nmX2 hown hK hP hD hS 0 rfl rfl 12 (by decide) k54 (fun _ h9 => h9) rfl (by decide +kernel) rfl rfl (Nat.le_of_ble_eq_true rfl) dX2_dance_2 (fun H locs hP hD hS => ?_)
  have hP : va_P D vwCl (wB K a (pB_re s 0)) H := hP
  have hD : va_D A (wB K a (pB_re s 0)) := hD
  refine lv_iload_n hx hb dX2_dance_5 rfl (lv_at hl 1 rfl) ?_
  refine lv_if_lt (tgt := 15) hx hb dX2_dance_6 (by decide) (fun c_6 => ?_) (fun c_6 => ?_)
  · refine lv_iconst (v := (-1)) hx hb dX2_dance_15 (by decide) ?_
    exact rt_I hx hb hr hlk hK hP hD hS (pr_of (Eq.trans (if_pos c_6) (rfl))) dX2_dance_16
  · refine lv_iload_n hx hb dX2_dance_9 rfl (lv_at hl 1 rfl) ?_
    refine lv_bipush (v := 50) hx hb dX2_dance_10 (by decide) ?_
    refine lv_icmp_le (tgt := 17) hx hb dX2_dance_12 (by decide) (fun c_12 => ?_) (fun c_12 => ?_)
    · refine lv_aload_n hx hb dX2_dance_17 rfl (lv_at hl 0 rfl) ?_
      refine cl_V (c_X2_clearChanges l D K a _  ) ⟨hx, hb, hml, hown, hts⟩ (cwV 0 hts gX2_dance_X2_clearChanges rfl rfl rfl (by decide +kernel) ⟨Nat.le_of_ble_eq_true rfl, Nat.le_of_ble_eq_true rfl⟩) hK hP hD hS hA rfl rfl rfl rfl hl.1 rfl (Nat.le_of_ble_eq_true rfl) (Nat.zero_le _) (Nat.zero_le _) dX2_dance_18 (fun H locs hP hD hS => ?_)
      obtain ⟨s8, es8⟩ : ∃ zz : SB, f_X2_clearChanges (pB_re s 0)  = zz := ⟨_, rfl⟩
      rw [es8] at hP hD
      refine lv_iconst (v := 0) hx hb dX2_dance_21 (by decide) ?_
      refine lv_istore_n (lv' := [(2, .int 0), (0, .ref (a 0)), (1, .int k)]) hx hb dX2_dance_22 rfl hl (by decide) rfl (fun ls hl => ?_)
      refine lv_iconst (v := (-1)) hx hb dX2_dance_23 (by decide) ?_
      refine lv_istore_n (lv' := [(3, .int (-1)), (2, .int 0), (0, .ref (a 0)), (1, .int k)]) hx hb dX2_dance_24 rfl hl (by decide) rfl (fun ls hl => ?_)
      refine lv_iconst (v := 0) hx hb dX2_dance_25 (by decide) ?_
      refine lv_istore (lv' := [(4, .int 0), (3, .int (-1)), (2, .int 0), (0, .ref (a 0)), (1, .int k)]) hx hb dX2_dance_26 hl (by decide) rfl (fun ls hl => ?_)
      subst es8
      exact loop 51 (0) _ _ _ _ _ _ _ (nI_0.symm) (rfl) (by decide) (c_12) (Eq.symm (Eq.trans (if_neg c_6) (Eq.trans (if_pos c_12) (rfl)))) hP hD hS (lv_sub hl [3, 4, 2, 1, 0] rfl)
    · refine lv_iconst (v := (-1)) hx hb dX2_dance_15 (by decide) ?_
      exact rt_I hx hb hr hlk hK hP hD hS (pr_of (Eq.trans (if_neg c_6) (Eq.trans (if_neg c_12) (rfl)))) dX2_dance_16
