def f_X2_set (s : SB) (t : Int32) (k : Int32) (b : Int64) : Int32 × SB := if (f_X2_refusalOfSetting s t k b) = 0 then (let s1 := f_X2_write (pB_re s (f_X2_refusalOfSetting s t k b)) t k b; (gB_re s1, s1)) else ((f_X2_refusalOfSetting s t k b, pB_re s (f_X2_refusalOfSetting s t k b)))
set_option maxHeartbeats 4000000 in
set_option maxRecDepth 100000 in
theorem c_X2_set (l : Launch) (D : va_G) (K : ClassId × ClassId × ClassId) (a : Nat → Nat) (s : SB) (t : Int32) (k : Int32) (b : Int64)   : MetI l yX2_set wsX2_set { frames := 3, cells := 0, slots := 0, locals := 68 } D vwCl (tyK K) (wB K a) [.ref (a 0), .int t, .int k, .long b] s (f_X2_set s t k b).1 (f_X2_set s t k b).2 := by
  intro sz0
  refine en_W (cc := cX2_set) (maxL := 5) (ret := (some .int)) (Qc := fun A => va_Qi (fun (x0 : Int32) (u0 : SB) => x0 = (f_X2_set s t k b).1 ∧ u0 = (f_X2_set s t k b).2) (bs_a D vwCl (tyK K) (wB K a) A) A) (by decide) rfl (Nat.le_of_ble_eq_true rfl) ?_ sz0
  intro p e st m below meth c ls A hx hb hr hml hts hown hlk hA hK hP hD hS hl
  have hown : st.vm.findClass RX2 = some m.cls := hown
  have hl : lv_has ls 5 [(0, .ref (a 0)), (1, .int t), (2, .int k), (3, .long b)] := hl
  have hinX2 : ∀ w ∈ u_ws RX2 TX2 15, w ∈ wsX2_set := fun w h => List.mem_cons_of_mem _ (List.mem_append_right _ h)
  have k54 := hts (.fieldLink RX2 54 "PuppetBar" "refusal" "I") (by decide +kernel)
  refine lv_aload_n hx hb dX2_set_0 rfl (lv_at hl 0 rfl) ?_
  refine lv_aload_n hx hb dX2_set_1 rfl (lv_at hl 0 rfl) ?_
  refine lv_iload_n hx hb dX2_set_2 rfl (lv_at hl 1 rfl) ?_
  refine lv_iload_n hx hb dX2_set_3 rfl (lv_at hl 2 rfl) ?_
  refine lv_lload_n hx hb dX2_set_4 rfl (lv_at hl 3 rfl) ?_
  refine cl_I (c_X2_refusalOfSetting l D K a _ _ _ _ ) ⟨hx, hb, hml, hown, hts⟩ (cwV 3 hts gX2_set_X2_refusalOfSetting rfl rfl rfl (by decide +kernel) ⟨Nat.le_of_ble_eq_true rfl, Nat.le_of_ble_eq_true rfl⟩) hK hP hD hS hA rfl rfl rfl rfl hl.1 rfl (Nat.le_of_ble_eq_true rfl) (Nat.zero_le _) (Nat.zero_le _) dX2_set_5 (fun H locs hP hD hS => ?_)
  refine va_put (D := D) (ci := 1) (ty := .int) (C := RX2) (T := TX2) (N := 15) hx hb hts hinX2 tyX2 tyX2_ok nmX2 hown hK hP hD hS 0 rfl rfl 12 (by decide) k54 (fun _ h9 => h9) rfl (by decide +kernel) rfl rfl (Nat.le_of_ble_eq_true rfl) dX2_set_8 (fun H locs hP hD hS => ?_)
  have hP : va_P D vwCl (wB K a (pB_re s (f_X2_refusalOfSetting s t k b))) H := hP
  have hD : va_D A (wB K a (pB_re s (f_X2_refusalOfSetting s t k b))) := hD
  refine lv_aload_n hx hb dX2_set_11 rfl (lv_at hl 0 rfl) ?_
  refine va_get (D := D) (ci := 1) (C := RX2) (T := TX2) (N := 15) hx hb hts hinX2 hown hK hP 0 rfl rfl 12 (by decide) k54 (fun _ h9 => h9) rfl dX2_set_12 ?_
  refine lv_if_ne (tgt := 25) hx hb dX2_set_15 (by decide) (fun c_15 => ?_) (fun c_15 => ?_)
  · refine lv_aload_n hx hb dX2_set_25 rfl (lv_at hl 0 rfl) ?_
    refine va_get (D := D) (ci := 1) (C := RX2) (T := TX2) (N := 15) hx hb hts hinX2 hown hK hP 0 rfl rfl 12 (by decide) k54 (fun _ h9 => h9) rfl dX2_set_26 ?_
    exact rt_I hx hb hr hlk hK hP hD hS (pr_of (Eq.trans (if_neg c_15) (rfl))) dX2_set_29
  · refine lv_aload_n hx hb dX2_set_18 rfl (lv_at hl 0 rfl) ?_
    refine lv_iload_n hx hb dX2_set_19 rfl (lv_at hl 1 rfl) ?_
    refine lv_iload_n hx hb dX2_set_20 rfl (lv_at hl 2 rfl) ?_
    refine lv_lload_n hx hb dX2_set_21 rfl (lv_at hl 3 rfl) ?_
    refine cl_V (c_X2_write l D K a _ _ _ _ (hb_set c_15)) ⟨hx, hb, hml, hown, hts⟩ (cwV 3 hts gX2_set_X2_write rfl rfl rfl (by decide +kernel) ⟨Nat.le_of_ble_eq_true rfl, Nat.le_of_ble_eq_true rfl⟩) hK hP hD hS hA rfl rfl rfl rfl hl.1 rfl (Nat.le_of_ble_eq_true rfl) (Nat.zero_le _) (Nat.zero_le _) dX2_set_22 (fun H locs hP hD hS => ?_)
    obtain ⟨s1, es1⟩ : ∃ zz : SB, f_X2_write (pB_re s (f_X2_refusalOfSetting s t k b)) t k b = zz := ⟨_, rfl⟩
    rw [es1] at hP hD
    refine lv_aload_n hx hb dX2_set_25 rfl (lv_at hl 0 rfl) ?_
    refine va_get (D := D) (ci := 1) (C := RX2) (T := TX2) (N := 15) hx hb hts hinX2 hown hK hP 0 rfl rfl 12 (by decide) k54 (fun _ h9 => h9) rfl dX2_set_26 ?_
    subst es1
    exact rt_I hx hb hr hlk hK hP hD hS (pr_of (Eq.trans (if_pos c_15) (rfl))) dX2_set_29

def f_X2_get (s : SB) (t : Int32) (k : Int32) : Int64 × SB := if (f_X2_refusalOfPart s t k) = 0 then ((f_X2_read (pB_re s (f_X2_refusalOfPart s t k)) t k, pB_re s (f_X2_refusalOfPart s t k))) else ((0, pB_re s (f_X2_refusalOfPart s t k)))
set_option maxHeartbeats 4000000 in
set_option maxRecDepth 100000 in
theorem c_X2_get (l : Launch) (D : va_G) (K : ClassId × ClassId × ClassId) (a : Nat → Nat) (s : SB) (t : Int32) (k : Int32)   : MetL l yX2_get wsX2_get { frames := 2, cells := 0, slots := 0, locals := 43 } D vwCl (tyK K) (wB K a) [.ref (a 0), .int t, .int k] s (f_X2_get s t k).1 (f_X2_get s t k).2 := by
  intro sz0
  refine en_W (cc := cX2_get) (maxL := 3) (ret := (some .long)) (Qc := fun A => va_Ql (fun (x0 : Int64) (u0 : SB) => x0 = (f_X2_get s t k).1 ∧ u0 = (f_X2_get s t k).2) (bs_a D vwCl (tyK K) (wB K a) A) A) (by decide) rfl (Nat.le_of_ble_eq_true rfl) ?_ sz0
  intro p e st m below meth c ls A hx hb hr hml hts hown hlk hA hK hP hD hS hl
  have hown : st.vm.findClass RX2 = some m.cls := hown
  have hl : lv_has ls 3 [(0, .ref (a 0)), (1, .int t), (2, .int k)] := hl
  have hinX2 : ∀ w ∈ u_ws RX2 TX2 15, w ∈ wsX2_get := fun w h => List.mem_cons_of_mem _ (List.mem_append_right _ h)
  have k54 := hts (.fieldLink RX2 54 "PuppetBar" "refusal" "I") (by decide +kernel)
  refine lv_aload_n hx hb dX2_get_0 rfl (lv_at hl 0 rfl) ?_
  refine lv_aload_n hx hb dX2_get_1 rfl (lv_at hl 0 rfl) ?_
  refine lv_iload_n hx hb dX2_get_2 rfl (lv_at hl 1 rfl) ?_
  refine lv_iload_n hx hb dX2_get_3 rfl (lv_at hl 2 rfl) ?_
  refine cl_I (c_X2_refusalOfPart l D K a _ _ _ ) ⟨hx, hb, hml, hown, hts⟩ (cwV 2 hts gX2_get_X2_refusalOfPart rfl rfl rfl (by decide +kernel) ⟨Nat.le_of_ble_eq_true rfl, Nat.le_of_ble_eq_true rfl⟩) hK hP hD hS hA rfl rfl rfl rfl hl.1 rfl (Nat.le_of_ble_eq_true rfl) (Nat.zero_le _) (Nat.zero_le _) dX2_get_4 (fun H locs hP hD hS => ?_)
  refine va_put (D := D) (ci := 1) (ty := .int) (C := RX2) (T := TX2) (N := 15) hx hb hts hinX2 tyX2 tyX2_ok nmX2 hown hK hP hD hS 0 rfl rfl 12 (by decide) k54 (fun _ h9 => h9) rfl (by decide +kernel) rfl rfl (Nat.le_of_ble_eq_true rfl) dX2_get_7 (fun H locs hP hD hS => ?_)
  have hP : va_P D vwCl (wB K a (pB_re s (f_X2_refusalOfPart s t k))) H := hP
  have hD : va_D A (wB K a (pB_re s (f_X2_refusalOfPart s t k))) := hD
  refine lv_aload_n hx hb dX2_get_10 rfl (lv_at hl 0 rfl) ?_
  refine va_get (D := D) (ci := 1) (C := RX2) (T := TX2) (N := 15) hx hb hts hinX2 hown hK hP 0 rfl rfl 12 (by decide) k54 (fun _ h9 => h9) rfl dX2_get_11 ?_
  refine lv_if_ne (tgt := 26) hx hb dX2_get_14 (by decide) (fun c_14 => ?_) (fun c_14 => ?_)
  · refine lv_lconst (v := 0) hx hb dX2_get_26 (by decide) ?_
    exact rt_L hx hb hr hlk hK hP hD hS (pr_of (Eq.trans (if_neg c_14) (rfl))) dX2_get_27
  · refine lv_aload_n hx hb dX2_get_17 rfl (lv_at hl 0 rfl) ?_
    refine lv_iload_n hx hb dX2_get_18 rfl (lv_at hl 1 rfl) ?_
    refine lv_iload_n hx hb dX2_get_19 rfl (lv_at hl 2 rfl) ?_
    refine cl_L (c_X2_read l D K a _ _ _ (hb_part c_14)) ⟨hx, hb, hml, hown, hts⟩ (cwV 2 hts gX2_get_X2_read rfl rfl rfl (by decide +kernel) ⟨Nat.le_of_ble_eq_true rfl, Nat.le_of_ble_eq_true rfl⟩) hK hP hD hS hA rfl rfl rfl rfl hl.1 rfl (Nat.le_of_ble_eq_true rfl) (Nat.zero_le _) (Nat.zero_le _) dX2_get_20 (fun H locs hP hD hS => ?_)
    refine lv_goto (tgt := 27) hx hb dX2_get_23 (by decide) ?_
    exact rt_L hx hb hr hlk hK hP hD hS (pr_of (Eq.trans (if_pos c_14) (rfl))) dX2_get_27

def f_X2_refused (s : SB)  : Int32 := gB_re s
set_option maxHeartbeats 4000000 in
set_option maxRecDepth 100000 in
theorem c_X2_refused (l : Launch) (D : va_G) (K : ClassId × ClassId × ClassId) (a : Nat → Nat) (s : SB)    : MetI l yX2_refused wsX2_refused { frames := 0, cells := 0, slots := 0, locals := 0 } D vwCl (tyK K) (wB K a) [.ref (a 0)] s (f_X2_refused s ) s := by
  intro sz0
  refine en_W (cc := cX2_refused) (maxL := 1) (ret := (some .int)) (Qc := fun A => va_Qi (fun (x0 : Int32) (u0 : SB) => x0 = f_X2_refused s  ∧ u0 = s) (bs_a D vwCl (tyK K) (wB K a) A) A) (by decide) rfl (Nat.le_of_ble_eq_true rfl) ?_ sz0
  intro p e st m below meth c ls A hx hb hr hml hts hown hlk hA hK hP hD hS hl
  have hown : st.vm.findClass RX2 = some m.cls := hown
  have hl : lv_has ls 1 [(0, .ref (a 0))] := hl
  have hinX2 : ∀ w ∈ u_ws RX2 TX2 15, w ∈ wsX2_refused := fun w h => List.mem_cons_of_mem _ (List.mem_append_right _ h)
  have k54 := hts (.fieldLink RX2 54 "PuppetBar" "refusal" "I") (by decide +kernel)
  refine lv_aload_n hx hb dX2_refused_0 rfl (lv_at hl 0 rfl) ?_
  refine va_get (D := D) (ci := 1) (C := RX2) (T := TX2) (N := 15) hx hb hts hinX2 hown hK hP 0 rfl rfl 12 (by decide) k54 (fun _ h9 => h9) rfl dX2_refused_1 ?_
  exact rt_I hx hb hr hlk hK hP hD hS ⟨Eq.symm (rfl), rfl⟩ dX2_refused_4

def f_X2_cut (s : SB) (t : Int32) : Int32 × SB := if (f_X2_refusalOfThread s t) = 0 then ((f_X2_refusalOfThread s t, pB_Z (pB_re s (f_X2_refusalOfThread s t)) (upd (gB_Z s) t.toNatClampNeg (vp_nar .boolean 1)))) else ((f_X2_refusalOfThread s t, pB_re s (f_X2_refusalOfThread s t)))
set_option maxHeartbeats 4000000 in
set_option maxRecDepth 100000 in
theorem c_X2_cut (l : Launch) (D : va_G) (K : ClassId × ClassId × ClassId) (a : Nat → Nat) (s : SB) (t : Int32)   : MetI l yX2_cut wsX2_cut { frames := 1, cells := 0, slots := 0, locals := 21 } D vwCl (tyK K) (wB K a) [.ref (a 0), .int t] s (f_X2_cut s t).1 (f_X2_cut s t).2 := by
  intro sz0
  refine en_W (cc := cX2_cut) (maxL := 2) (ret := (some .int)) (Qc := fun A => va_Qi (fun (x0 : Int32) (u0 : SB) => x0 = (f_X2_cut s t).1 ∧ u0 = (f_X2_cut s t).2) (bs_a D vwCl (tyK K) (wB K a) A) A) (by decide) rfl (Nat.le_of_ble_eq_true rfl) ?_ sz0
  intro p e st m below meth c ls A hx hb hr hml hts hown hlk hA hK hP hD hS hl
  have hown : st.vm.findClass RX2 = some m.cls := hown
  have hl : lv_has ls 2 [(0, .ref (a 0)), (1, .int t)] := hl
  have hinX2 : ∀ w ∈ u_ws RX2 TX2 15, w ∈ wsX2_cut := fun w h => List.mem_cons_of_mem _ (List.mem_append_right _ h)
  have k54 := hts (.fieldLink RX2 54 "PuppetBar" "refusal" "I") (by decide +kernel)
  have k29 := hts (.fieldLink RX2 29 "PuppetBar" "isCut" "[Z") (by decide +kernel)
  refine lv_aload_n hx hb dX2_cut_0 rfl (lv_at hl 0 rfl) ?_
  refine lv_aload_n hx hb dX2_cut_1 rfl (lv_at hl 0 rfl) ?_
  refine lv_iload_n hx hb dX2_cut_2 rfl (lv_at hl 1 rfl) ?_
  refine cl_I (c_X2_refusalOfThread l D K a _ _ ) ⟨hx, hb, hml, hown, hts⟩ (cwV 1 hts gX2_cut_X2_refusalOfThread rfl rfl rfl (by decide +kernel) ⟨Nat.le_of_ble_eq_true rfl, Nat.le_of_ble_eq_true rfl⟩) hK hP hD hS hA rfl rfl rfl rfl hl.1 rfl (Nat.le_of_ble_eq_true rfl) (Nat.zero_le _) (Nat.zero_le _) dX2_cut_3 (fun H locs hP hD hS => ?_)
  refine va_put (D := D) (ci := 1) (ty := .int) (C := RX2) (T := TX2) (N := 15) hx hb hts hinX2 tyX2 tyX2_ok nmX2 hown hK hP hD hS 0 rfl rfl 12 (by decide) k54 (fun _ h9 => h9) rfl (by decide +kernel) rfl rfl (Nat.le_of_ble_eq_true rfl) dX2_cut_6 (fun H locs hP hD hS => ?_)
  have hP : va_P D vwCl (wB K a (pB_re s (f_X2_refusalOfThread s t))) H := hP
  have hD : va_D A (wB K a (pB_re s (f_X2_refusalOfThread s t))) := hD
  refine lv_aload_n hx hb dX2_cut_9 rfl (lv_at hl 0 rfl) ?_
  refine va_get (D := D) (ci := 1) (C := RX2) (T := TX2) (N := 15) hx hb hts hinX2 hown hK hP 0 rfl rfl 12 (by decide) k54 (fun _ h9 => h9) rfl dX2_cut_10 ?_
  refine lv_if_ne (tgt := 23) hx hb dX2_cut_13 (by decide) (fun c_13 => ?_) (fun c_13 => ?_)
  · refine lv_aload_n hx hb dX2_cut_23 rfl (lv_at hl 0 rfl) ?_
    refine va_get (D := D) (ci := 1) (C := RX2) (T := TX2) (N := 15) hx hb hts hinX2 hown hK hP 0 rfl rfl 12 (by decide) k54 (fun _ h9 => h9) rfl dX2_cut_24 ?_
    exact rt_I hx hb hr hlk hK hP hD hS (pr_of (Eq.trans (if_neg c_13) (rfl))) dX2_cut_27
  · refine lv_aload_n hx hb dX2_cut_16 rfl (lv_at hl 0 rfl) ?_
    refine va_get (D := D) (ci := 1) (C := RX2) (T := TX2) (N := 15) hx hb hts hinX2 hown hK hP 0 rfl rfl 6 (by decide) k29 (fun _ h9 => h9) rfl dX2_cut_17 ?_
    refine lv_iload_n hx hb dX2_cut_20 rfl (lv_at hl 1 rfl) ?_
    refine lv_iconst (v := 1) hx hb dX2_cut_21 (by decide) ?_
    refine va_zast hx hb hK hP hD hS 7 2 rfl rfl (hb_thr c_13) dX2_cut_22 (fun H locs hP hD hS => ?_)
    have hP : va_P D vwCl (wB K a (pB_Z (pB_re s (f_X2_refusalOfThread s t)) (upd (gB_Z s) t.toNatClampNeg (vp_nar .boolean 1)))) H := hP
    have hD : va_D A (wB K a (pB_Z (pB_re s (f_X2_refusalOfThread s t)) (upd (gB_Z s) t.toNatClampNeg (vp_nar .boolean 1)))) := hD
    refine lv_aload_n hx hb dX2_cut_23 rfl (lv_at hl 0 rfl) ?_
    refine va_get (D := D) (ci := 1) (C := RX2) (T := TX2) (N := 15) hx hb hts hinX2 hown hK hP 0 rfl rfl 12 (by decide) k54 (fun _ h9 => h9) rfl dX2_cut_24 ?_
    exact rt_I hx hb hr hlk hK hP hD hS (pr_of (Eq.trans (if_pos c_13) (rfl))) dX2_cut_27

def f_X2_string (s : SB) (t : Int32) : Int32 × SB := if (f_X2_refusalOfStringing s t) = 0 then (let s1 := f_X2_stringAnew (pB_re s (f_X2_refusalOfStringing s t)) t; (gB_re s1, s1)) else ((f_X2_refusalOfStringing s t, pB_re s (f_X2_refusalOfStringing s t)))
set_option maxHeartbeats 4000000 in
set_option maxRecDepth 100000 in
theorem c_X2_string (l : Launch) (D : va_G) (K : ClassId × ClassId × ClassId) (a : Nat → Nat) (s : SB) (t : Int32)   : MetI l yX2_string wsX2_string { frames := 2, cells := 0, slots := 0, locals := 43 } D vwCl (tyK K) (wB K a) [.ref (a 0), .int t] s (f_X2_string s t).1 (f_X2_string s t).2 := by
  intro sz0
  refine en_W (cc := cX2_string) (maxL := 2) (ret := (some .int)) (Qc := fun A => va_Qi (fun (x0 : Int32) (u0 : SB) => x0 = (f_X2_string s t).1 ∧ u0 = (f_X2_string s t).2) (bs_a D vwCl (tyK K) (wB K a) A) A) (by decide) rfl (Nat.le_of_ble_eq_true rfl) ?_ sz0
  intro p e st m below meth c ls A hx hb hr hml hts hown hlk hA hK hP hD hS hl
  have hown : st.vm.findClass RX2 = some m.cls := hown
  have hl : lv_has ls 2 [(0, .ref (a 0)), (1, .int t)] := hl
  have hinX2 : ∀ w ∈ u_ws RX2 TX2 15, w ∈ wsX2_string := fun w h => List.mem_cons_of_mem _ (List.mem_append_right _ h)
  have k54 := hts (.fieldLink RX2 54 "PuppetBar" "refusal" "I") (by decide +kernel)
  refine lv_aload_n hx hb dX2_string_0 rfl (lv_at hl 0 rfl) ?_
  refine lv_aload_n hx hb dX2_string_1 rfl (lv_at hl 0 rfl) ?_
  refine lv_iload_n hx hb dX2_string_2 rfl (lv_at hl 1 rfl) ?_
  refine cl_I (c_X2_refusalOfStringing l D K a _ _ ) ⟨hx, hb, hml, hown, hts⟩ (cwV 1 hts gX2_string_X2_refusalOfStringing rfl rfl rfl (by decide +kernel) ⟨Nat.le_of_ble_eq_true rfl, Nat.le_of_ble_eq_true rfl⟩) hK hP hD hS hA rfl rfl rfl rfl hl.1 rfl (Nat.le_of_ble_eq_true rfl) (Nat.zero_le _) (Nat.zero_le _) dX2_string_3 (fun H locs hP hD hS => ?_)
  refine va_put (D := D) (ci := 1) (ty := .int) (C := RX2) (T := TX2) (N := 15) hx hb hts hinX2 tyX2 tyX2_ok nmX2 hown hK hP hD hS 0 rfl rfl 12 (by decide) k54 (fun _ h9 => h9) rfl (by decide +kernel) rfl rfl (Nat.le_of_ble_eq_true rfl) dX2_string_6 (fun H locs hP hD hS => ?_)
  have hP : va_P D vwCl (wB K a (pB_re s (f_X2_refusalOfStringing s t))) H := hP
  have hD : va_D A (wB K a (pB_re s (f_X2_refusalOfStringing s t))) := hD
  refine lv_aload_n hx hb dX2_string_9 rfl (lv_at hl 0 rfl) ?_
  refine va_get (D := D) (ci := 1) (C := RX2) (T := TX2) (N := 15) hx hb hts hinX2 hown hK hP 0 rfl rfl 12 (by decide) k54 (fun _ h9 => h9) rfl dX2_string_10 ?_
  refine lv_if_ne (tgt := 21) hx hb dX2_string_13 (by decide) (fun c_13 => ?_) (fun c_13 => ?_)
  · refine lv_aload_n hx hb dX2_string_21 rfl (lv_at hl 0 rfl) ?_
    refine va_get (D := D) (ci := 1) (C := RX2) (T := TX2) (N := 15) hx hb hts hinX2 hown hK hP 0 rfl rfl 12 (by decide) k54 (fun _ h9 => h9) rfl dX2_string_22 ?_
    exact rt_I hx hb hr hlk hK hP hD hS (pr_of (Eq.trans (if_neg c_13) (rfl))) dX2_string_25
  · refine lv_aload_n hx hb dX2_string_16 rfl (lv_at hl 0 rfl) ?_
    refine lv_iload_n hx hb dX2_string_17 rfl (lv_at hl 1 rfl) ?_
    refine cl_V (c_X2_stringAnew l D K a _ _ (hb_str c_13)) ⟨hx, hb, hml, hown, hts⟩ (cwV 1 hts gX2_string_X2_stringAnew rfl rfl rfl (by decide +kernel) ⟨Nat.le_of_ble_eq_true rfl, Nat.le_of_ble_eq_true rfl⟩) hK hP hD hS hA rfl rfl rfl rfl hl.1 rfl (Nat.le_of_ble_eq_true rfl) (Nat.zero_le _) (Nat.zero_le _) dX2_string_18 (fun H locs hP hD hS => ?_)
    obtain ⟨s1, es1⟩ : ∃ zz : SB, f_X2_stringAnew (pB_re s (f_X2_refusalOfStringing s t)) t = zz := ⟨_, rfl⟩
    rw [es1] at hP hD
    refine lv_aload_n hx hb dX2_string_21 rfl (lv_at hl 0 rfl) ?_
    refine va_get (D := D) (ci := 1) (C := RX2) (T := TX2) (N := 15) hx hb hts hinX2 hown hK hP 0 rfl rfl 12 (by decide) k54 (fun _ h9 => h9) rfl dX2_string_22 ?_
    subst es1
    exact rt_I hx hb hr hlk hK hP hD hS (pr_of (Eq.trans (if_pos c_13) (rfl))) dX2_string_25

def f_X2_move (s : SB) (n : Int32) (t : Int32) (u : Int32) : Int32 × SB := if (f_X2_refusalOfMove s n t u) = 0 then (let s1 := f_X2_clearChanges (pB_re s (f_X2_refusalOfMove s n t u)) ; let s2 := f_X2_perform s1 n t u; (((((gB_CH s2) (1 : Int32).toNatClampNeg) + ((gB_CH s2) (2 : Int32).toNatClampNeg)) + ((gB_CH s2) (3 : Int32).toNatClampNeg)) + ((gB_CH s2) (4 : Int32).toNatClampNeg), s2)) else (((-1), pB_re s (f_X2_refusalOfMove s n t u)))
set_option maxHeartbeats 4000000 in
set_option maxRecDepth 100000 in
theorem c_X2_move (l : Launch) (D : va_G) (K : ClassId × ClassId × ClassId) (a : Nat → Nat) (s : SB) (n : Int32) (t : Int32) (u : Int32)   : MetI l yX2_move wsX2_move { frames := 5, cells := 0, slots := 0, locals := 123 } D vwCl (tyK K) (wB K a) [.ref (a 0), .int n, .int t, .int u] s (f_X2_move s n t u).1 (f_X2_move s n t u).2 := by
  intro sz0
  refine en_W (cc := cX2_move) (maxL := 4) (ret := (some .int)) (Qc := fun A => va_Qi (fun (x0 : Int32) (u0 : SB) => x0 = (f_X2_move s n t u).1 ∧ u0 = (f_X2_move s n t u).2) (bs_a D vwCl (tyK K) (wB K a) A) A) (by decide) rfl (Nat.le_of_ble_eq_true rfl) ?_ sz0
  intro p e st m below meth c ls A hx hb hr hml hts hown hlk hA hK hP hD hS hl
  have hown : st.vm.findClass RX2 = some m.cls := hown
  have hl : lv_has ls 4 [(0, .ref (a 0)), (1, .int n), (2, .int t), (3, .int u)] := hl
  have hinX2 : ∀ w ∈ u_ws RX2 TX2 15, w ∈ wsX2_move := fun w h => List.mem_cons_of_mem _ (List.mem_append_right _ h)
  have k54 := hts (.fieldLink RX2 54 "PuppetBar" "refusal" "I") (by decide +kernel)
  have k57 := hts (.fieldLink RX2 57 "PuppetBar" "changes" "[I") (by decide +kernel)
  refine lv_aload_n hx hb dX2_move_0 rfl (lv_at hl 0 rfl) ?_
  refine lv_aload_n hx hb dX2_move_1 rfl (lv_at hl 0 rfl) ?_
  refine lv_iload_n hx hb dX2_move_2 rfl (lv_at hl 1 rfl) ?_
  refine lv_iload_n hx hb dX2_move_3 rfl (lv_at hl 2 rfl) ?_
  refine lv_iload_n hx hb dX2_move_4 rfl (lv_at hl 3 rfl) ?_
  refine cl_I (c_X2_refusalOfMove l D K a _ _ _ _ ) ⟨hx, hb, hml, hown, hts⟩ (cwV 3 hts gX2_move_X2_refusalOfMove rfl rfl rfl (by decide +kernel) ⟨Nat.le_of_ble_eq_true rfl, Nat.le_of_ble_eq_true rfl⟩) hK hP hD hS hA rfl rfl rfl rfl hl.1 rfl (Nat.le_of_ble_eq_true rfl) (Nat.zero_le _) (Nat.zero_le _) dX2_move_5 (fun H locs hP hD hS => ?_)
  refine va_put (D := D) (ci := 1) (ty := .int) (C := RX2) (T := TX2) (N := 15) hx hb hts hinX2 tyX2 tyX2_ok nmX2 hown hK hP hD hS 0 rfl rfl 12 (by decide) k54 (fun _ h9 => h9) rfl (by decide +kernel) rfl rfl (Nat.le_of_ble_eq_true rfl) dX2_move_8 (fun H locs hP hD hS => ?_)
  have hP : va_P D vwCl (wB K a (pB_re s (f_X2_refusalOfMove s n t u))) H := hP
  have hD : va_D A (wB K a (pB_re s (f_X2_refusalOfMove s n t u))) := hD
  refine lv_aload_n hx hb dX2_move_11 rfl (lv_at hl 0 rfl) ?_
  refine va_get (D := D) (ci := 1) (C := RX2) (T := TX2) (N := 15) hx hb hts hinX2 hown hK hP 0 rfl rfl 12 (by decide) k54 (fun _ h9 => h9) rfl dX2_move_12 ?_
  refine lv_if_eq (tgt := 20) hx hb dX2_move_15 (by decide) (fun c_15 => ?_) (fun c_15 => ?_)
  · refine lv_aload_n hx hb dX2_move_20 rfl (lv_at hl 0 rfl) ?_
    refine cl_V (c_X2_clearChanges l D K a _  ) ⟨hx, hb, hml, hown, hts⟩ (cwV 0 hts gX2_move_X2_clearChanges rfl rfl rfl (by decide +kernel) ⟨Nat.le_of_ble_eq_true rfl, Nat.le_of_ble_eq_true rfl⟩) hK hP hD hS hA rfl rfl rfl rfl hl.1 rfl (Nat.le_of_ble_eq_true rfl) (Nat.zero_le _) (Nat.zero_le _) dX2_move_21 (fun H locs hP hD hS => ?_)
    obtain ⟨s1, es1⟩ : ∃ zz : SB, f_X2_clearChanges (pB_re s (f_X2_refusalOfMove s n t u))  = zz := ⟨_, rfl⟩
    rw [es1] at hP hD
    refine lv_aload_n hx hb dX2_move_24 rfl (lv_at hl 0 rfl) ?_
    refine lv_iload_n hx hb dX2_move_25 rfl (lv_at hl 1 rfl) ?_
    refine lv_iload_n hx hb dX2_move_26 rfl (lv_at hl 2 rfl) ?_
    refine lv_iload_n hx hb dX2_move_27 rfl (lv_at hl 3 rfl) ?_
    refine cl_V (c_X2_perform l D K a _ _ _ _ (hb_move c_15).1 (hb_move c_15).2) ⟨hx, hb, hml, hown, hts⟩ (cwV 3 hts gX2_move_X2_perform rfl rfl rfl (by decide +kernel) ⟨Nat.le_of_ble_eq_true rfl, Nat.le_of_ble_eq_true rfl⟩) hK hP hD hS hA rfl rfl rfl rfl hl.1 rfl (Nat.le_of_ble_eq_true rfl) (Nat.zero_le _) (Nat.zero_le _) dX2_move_28 (fun H locs hP hD hS => ?_)
    obtain ⟨s2, es2⟩ : ∃ zz : SB, f_X2_perform s1 n t u = zz := ⟨_, rfl⟩
    rw [es2] at hP hD
    refine lv_aload_n hx hb dX2_move_31 rfl (lv_at hl 0 rfl) ?_
    refine va_get (D := D) (ci := 1) (C := RX2) (T := TX2) (N := 15) hx hb hts hinX2 hown hK hP 0 rfl rfl 13 (by decide) k57 (fun _ h9 => h9) rfl dX2_move_32 ?_
    refine lv_iconst (v := 1) hx hb dX2_move_35 (by decide) ?_
    refine va_iald hx hb hK hP 9 0 rfl rfl (by unfold vp_in; decide) dX2_move_36 ?_
    refine lv_aload_n hx hb dX2_move_37 rfl (lv_at hl 0 rfl) ?_
    refine va_get (D := D) (ci := 1) (C := RX2) (T := TX2) (N := 15) hx hb hts hinX2 hown hK hP 0 rfl rfl 13 (by decide) k57 (fun _ h9 => h9) rfl dX2_move_38 ?_
    refine lv_iconst (v := 2) hx hb dX2_move_41 (by decide) ?_
    refine va_iald hx hb hK hP 9 0 rfl rfl (by unfold vp_in; decide) dX2_move_42 ?_
    refine lv_iadd hx hb dX2_move_43 ?_
    refine lv_aload_n hx hb dX2_move_44 rfl (lv_at hl 0 rfl) ?_
    refine va_get (D := D) (ci := 1) (C := RX2) (T := TX2) (N := 15) hx hb hts hinX2 hown hK hP 0 rfl rfl 13 (by decide) k57 (fun _ h9 => h9) rfl dX2_move_45 ?_
    refine lv_iconst (v := 3) hx hb dX2_move_48 (by decide) ?_
    refine va_iald hx hb hK hP 9 0 rfl rfl (by unfold vp_in; decide) dX2_move_49 ?_
    refine lv_iadd hx hb dX2_move_50 ?_
    refine lv_aload_n hx hb dX2_move_51 rfl (lv_at hl 0 rfl) ?_
    refine va_get (D := D) (ci := 1) (C := RX2) (T := TX2) (N := 15) hx hb hts hinX2 hown hK hP 0 rfl rfl 13 (by decide) k57 (fun _ h9 => h9) rfl dX2_move_52 ?_
    refine lv_iconst (v := 4) hx hb dX2_move_55 (by decide) ?_
    refine va_iald hx hb hK hP 9 0 rfl rfl (by unfold vp_in; decide) dX2_move_56 ?_
    refine lv_iadd hx hb dX2_move_57 ?_
    subst es2 es1
    exact rt_I hx hb hr hlk hK hP hD hS (pr_of (Eq.trans (if_pos c_15) (rfl))) dX2_move_58
  · refine lv_iconst (v := (-1)) hx hb dX2_move_18 (by decide) ?_
    exact rt_I hx hb hr hlk hK hP hD hS (pr_of (Eq.trans (if_neg c_15) (rfl))) dX2_move_19

def f_X2_step (s : SB) (n : Int32) (t : Int32) (u : Int32) : Int32 × SB := let x1 := gB_sz s; if x1 < 0 then (((-1), s)) else (if x1 < 40 then ((x1 + 1, pB_sz (pB_OT (pB_TH (pB_MV s (upd (gB_MV s) x1.toNatClampNeg n)) (upd (gB_TH s) x1.toNatClampNeg t)) (upd (gB_OT s) x1.toNatClampNeg u)) (x1 + 1))) else (((-1), s)))
set_option maxHeartbeats 4000000 in
set_option maxRecDepth 100000 in
theorem c_X2_step (l : Launch) (D : va_G) (K : ClassId × ClassId × ClassId) (a : Nat → Nat) (s : SB) (n : Int32) (t : Int32) (u : Int32)   : MetI l yX2_step wsX2_step { frames := 0, cells := 0, slots := 0, locals := 0 } D vwCl (tyK K) (wB K a) [.ref (a 0), .int n, .int t, .int u] s (f_X2_step s n t u).1 (f_X2_step s n t u).2 := by
  intro sz0
  refine en_W (cc := cX2_step) (maxL := 5) (ret := (some .int)) (Qc := fun A => va_Qi (fun (x0 : Int32) (u0 : SB) => x0 = (f_X2_step s n t u).1 ∧ u0 = (f_X2_step s n t u).2) (bs_a D vwCl (tyK K) (wB K a) A) A) (by decide) rfl (Nat.le_of_ble_eq_true rfl) ?_ sz0
  intro p e st m below meth c ls A hx hb hr hml hts hown hlk hA hK hP hD hS hl
  have hown : st.vm.findClass RX2 = some m.cls := hown
  have hl : lv_has ls 5 [(0, .ref (a 0)), (1, .int n), (2, .int t), (3, .int u)] := hl
  have hinX0 : ∀ w ∈ u_ws RX0 TX0 4, w ∈ wsX2_step := fun w h => List.mem_cons_of_mem _ (List.mem_append_right _ h)
  have hinX2 : ∀ w ∈ u_ws RX2 TX2 15, w ∈ wsX2_step := fun w h => List.mem_cons_of_mem _ (List.mem_append_left _ (List.mem_append_right _ h))
  have k50 := hts (.fieldLink RX2 50 "PuppetBar" "figure" "LPuppetBar$Figure;") (by decide +kernel)
  have k101 := hts (.fieldLink RX2 101 "PuppetBar$Figure" "size" "I") (by decide +kernel)
  have k104 := hts (.fieldLink RX2 104 "PuppetBar$Figure" "moves" "[I") (by decide +kernel)
  have k107 := hts (.fieldLink RX2 107 "PuppetBar$Figure" "threads" "[I") (by decide +kernel)
  have k110 := hts (.fieldLink RX2 110 "PuppetBar$Figure" "others" "[I") (by decide +kernel)
  refine lv_aload_n hx hb dX2_step_0 rfl (lv_at hl 0 rfl) ?_
  refine va_get (D := D) (ci := 1) (C := RX2) (T := TX2) (N := 15) hx hb hts hinX2 hown hK hP 0 rfl rfl 11 (by decide) k50 (fun _ h9 => h9) rfl dX2_step_1 ?_
  refine va_get (D := D) (ci := 0) (C := RX0) (T := TX0) (N := 4) hx hb hts hinX0 hown hK hP 8 rfl rfl 3 (by decide) k101 (fun _ h9 => h9) rfl dX2_step_4 ?_
  refine tpi (fun x1 ex1 => ?_)
  refine lv_istore (lv' := [(4, .int x1), (0, .ref (a 0)), (1, .int n), (2, .int t), (3, .int u)]) hx hb dX2_step_7 hl (by decide) rfl (fun ls hl => ?_)
  refine lv_iload hx hb dX2_step_9 (lv_at hl 0 rfl) ?_
  refine lv_if_lt (tgt := 21) hx hb dX2_step_11 (by decide) (fun c_11 => ?_) (fun c_11 => ?_)
  · refine lv_iconst (v := (-1)) hx hb dX2_step_21 (by decide) ?_
    subst ex1
    exact rt_I hx hb hr hlk hK hP hD hS (pr_of (Eq.trans (if_pos c_11) (rfl))) dX2_step_22
  · refine lv_iload hx hb dX2_step_14 (lv_at hl 0 rfl) ?_
    refine lv_bipush (v := 40) hx hb dX2_step_16 (by decide) ?_
    refine lv_icmp_lt (tgt := 23) hx hb dX2_step_18 (by decide) (fun c_18 => ?_) (fun c_18 => ?_)
    · refine lv_aload_n hx hb dX2_step_23 rfl (lv_at hl 1 rfl) ?_
      refine va_get (D := D) (ci := 1) (C := RX2) (T := TX2) (N := 15) hx hb hts hinX2 hown hK hP 0 rfl rfl 11 (by decide) k50 (fun _ h9 => h9) rfl dX2_step_24 ?_
      refine va_get (D := D) (ci := 0) (C := RX0) (T := TX0) (N := 4) hx hb hts hinX0 hown hK hP 8 rfl rfl 0 (by decide) k104 (fun _ h9 => h9) rfl dX2_step_27 ?_
      refine lv_iload hx hb dX2_step_30 (lv_at hl 0 rfl) ?_
      refine lv_iload_n hx hb dX2_step_32 rfl (lv_at hl 2 rfl) ?_
      refine va_iast hx hb hK hP hD hS 11 0 rfl rfl (in_of c_11 (ltn c_18) rfl (by decide)) dX2_step_33 (fun H locs hP hD hS => ?_)
      have hP : va_P D vwCl (wB K a (pB_MV s (upd (gB_MV s) x1.toNatClampNeg n))) H := hP
      have hD : va_D A (wB K a (pB_MV s (upd (gB_MV s) x1.toNatClampNeg n))) := hD
      refine lv_aload_n hx hb dX2_step_34 rfl (lv_at hl 1 rfl) ?_
      refine va_get (D := D) (ci := 1) (C := RX2) (T := TX2) (N := 15) hx hb hts hinX2 hown hK hP 0 rfl rfl 11 (by decide) k50 (fun _ h9 => h9) rfl dX2_step_35 ?_
      refine va_get (D := D) (ci := 0) (C := RX0) (T := TX0) (N := 4) hx hb hts hinX0 hown hK hP 8 rfl rfl 1 (by decide) k107 (fun _ h9 => h9) rfl dX2_step_38 ?_
      refine lv_iload hx hb dX2_step_41 (lv_at hl 0 rfl) ?_
      refine lv_iload_n hx hb dX2_step_43 rfl (lv_at hl 3 rfl) ?_
      refine va_iast hx hb hK hP hD hS 12 0 rfl rfl (in_of c_11 (ltn c_18) rfl (by decide)) dX2_step_44 (fun H locs hP hD hS => ?_)
      have hP : va_P D vwCl (wB K a (pB_TH (pB_MV s (upd (gB_MV s) x1.toNatClampNeg n)) (upd (gB_TH s) x1.toNatClampNeg t))) H := hP
      have hD : va_D A (wB K a (pB_TH (pB_MV s (upd (gB_MV s) x1.toNatClampNeg n)) (upd (gB_TH s) x1.toNatClampNeg t))) := hD
      refine lv_aload_n hx hb dX2_step_45 rfl (lv_at hl 1 rfl) ?_
      refine va_get (D := D) (ci := 1) (C := RX2) (T := TX2) (N := 15) hx hb hts hinX2 hown hK hP 0 rfl rfl 11 (by decide) k50 (fun _ h9 => h9) rfl dX2_step_46 ?_
      refine va_get (D := D) (ci := 0) (C := RX0) (T := TX0) (N := 4) hx hb hts hinX0 hown hK hP 8 rfl rfl 2 (by decide) k110 (fun _ h9 => h9) rfl dX2_step_49 ?_
      refine lv_iload hx hb dX2_step_52 (lv_at hl 0 rfl) ?_
      refine lv_iload_n hx hb dX2_step_54 rfl (lv_at hl 4 rfl) ?_
      refine va_iast hx hb hK hP hD hS 13 0 rfl rfl (in_of c_11 (ltn c_18) rfl (by decide)) dX2_step_55 (fun H locs hP hD hS => ?_)
      have hP : va_P D vwCl (wB K a (pB_OT (pB_TH (pB_MV s (upd (gB_MV s) x1.toNatClampNeg n)) (upd (gB_TH s) x1.toNatClampNeg t)) (upd (gB_OT s) x1.toNatClampNeg u))) H := hP
      have hD : va_D A (wB K a (pB_OT (pB_TH (pB_MV s (upd (gB_MV s) x1.toNatClampNeg n)) (upd (gB_TH s) x1.toNatClampNeg t)) (upd (gB_OT s) x1.toNatClampNeg u))) := hD
      refine lv_aload_n hx hb dX2_step_56 rfl (lv_at hl 1 rfl) ?_
      refine va_get (D := D) (ci := 1) (C := RX2) (T := TX2) (N := 15) hx hb hts hinX2 hown hK hP 0 rfl rfl 11 (by decide) k50 (fun _ h9 => h9) rfl dX2_step_57 ?_
      refine lv_iload hx hb dX2_step_60 (lv_at hl 0 rfl) ?_
      refine lv_iconst (v := 1) hx hb dX2_step_62 (by decide) ?_
      refine lv_iadd hx hb dX2_step_63 ?_
      refine va_put (D := D) (ci := 0) (ty := .int) (C := RX0) (T := TX0) (N := 4) hx hb hts hinX0 tyX0 tyX0_ok nmX0 hown hK hP hD hS 8 rfl rfl 3 (by decide) k101 (fun _ h9 => h9) rfl (by decide +kernel) rfl rfl (Nat.le_of_ble_eq_true rfl) dX2_step_64 (fun H locs hP hD hS => ?_)
      have hP : va_P D vwCl (wB K a (pB_sz (pB_OT (pB_TH (pB_MV s (upd (gB_MV s) x1.toNatClampNeg n)) (upd (gB_TH s) x1.toNatClampNeg t)) (upd (gB_OT s) x1.toNatClampNeg u)) (x1 + 1))) H := hP
      have hD : va_D A (wB K a (pB_sz (pB_OT (pB_TH (pB_MV s (upd (gB_MV s) x1.toNatClampNeg n)) (upd (gB_TH s) x1.toNatClampNeg t)) (upd (gB_OT s) x1.toNatClampNeg u)) (x1 + 1))) := hD
      refine lv_aload_n hx hb dX2_step_67 rfl (lv_at hl 1 rfl) ?_
      refine va_get (D := D) (ci := 1) (C := RX2) (T := TX2) (N := 15) hx hb hts hinX2 hown hK hP 0 rfl rfl 11 (by decide) k50 (fun _ h9 => h9) rfl dX2_step_68 ?_
      refine va_get (D := D) (ci := 0) (C := RX0) (T := TX0) (N := 4) hx hb hts hinX0 hown hK hP 8 rfl rfl 3 (by decide) k101 (fun _ h9 => h9) rfl dX2_step_71 ?_
      subst ex1
      exact rt_I hx hb hr hlk hK hP hD hS (pr_of (Eq.trans (if_neg c_11) (Eq.trans (if_pos c_18) (rfl)))) dX2_step_74
    · refine lv_iconst (v := (-1)) hx hb dX2_step_21 (by decide) ?_
      subst ex1
      exact rt_I hx hb hr hlk hK hP hD hS (pr_of (Eq.trans (if_neg c_11) (Eq.trans (if_neg c_18) (rfl)))) dX2_step_22

def f_X2_forget (s : SB)  : Int32 × SB := let x1 := gB_sz s; (x1, pB_sz s 0)
set_option maxHeartbeats 4000000 in
set_option maxRecDepth 100000 in
theorem c_X2_forget (l : Launch) (D : va_G) (K : ClassId × ClassId × ClassId) (a : Nat → Nat) (s : SB)    : MetI l yX2_forget wsX2_forget { frames := 0, cells := 0, slots := 0, locals := 0 } D vwCl (tyK K) (wB K a) [.ref (a 0)] s (f_X2_forget s ).1 (f_X2_forget s ).2 := by
  intro sz0
  refine en_W (cc := cX2_forget) (maxL := 2) (ret := (some .int)) (Qc := fun A => va_Qi (fun (x0 : Int32) (u0 : SB) => x0 = (f_X2_forget s ).1 ∧ u0 = (f_X2_forget s ).2) (bs_a D vwCl (tyK K) (wB K a) A) A) (by decide) rfl (Nat.le_of_ble_eq_true rfl) ?_ sz0
  intro p e st m below meth c ls A hx hb hr hml hts hown hlk hA hK hP hD hS hl
  have hown : st.vm.findClass RX2 = some m.cls := hown
  have hl : lv_has ls 2 [(0, .ref (a 0))] := hl
  have hinX0 : ∀ w ∈ u_ws RX0 TX0 4, w ∈ wsX2_forget := fun w h => List.mem_cons_of_mem _ (List.mem_append_right _ h)
  have hinX2 : ∀ w ∈ u_ws RX2 TX2 15, w ∈ wsX2_forget := fun w h => List.mem_cons_of_mem _ (List.mem_append_left _ (List.mem_append_right _ h))
  have k50 := hts (.fieldLink RX2 50 "PuppetBar" "figure" "LPuppetBar$Figure;") (by decide +kernel)
  have k101 := hts (.fieldLink RX2 101 "PuppetBar$Figure" "size" "I") (by decide +kernel)
  refine lv_aload_n hx hb dX2_forget_0 rfl (lv_at hl 0 rfl) ?_
  refine va_get (D := D) (ci := 1) (C := RX2) (T := TX2) (N := 15) hx hb hts hinX2 hown hK hP 0 rfl rfl 11 (by decide) k50 (fun _ h9 => h9) rfl dX2_forget_1 ?_
  refine va_get (D := D) (ci := 0) (C := RX0) (T := TX0) (N := 4) hx hb hts hinX0 hown hK hP 8 rfl rfl 3 (by decide) k101 (fun _ h9 => h9) rfl dX2_forget_4 ?_
  refine tpi (fun x1 ex1 => ?_)
  refine lv_istore_n (lv' := [(1, .int x1), (0, .ref (a 0))]) hx hb dX2_forget_7 rfl hl (by decide) rfl (fun ls hl => ?_)
  refine lv_aload_n hx hb dX2_forget_8 rfl (lv_at hl 1 rfl) ?_
  refine va_get (D := D) (ci := 1) (C := RX2) (T := TX2) (N := 15) hx hb hts hinX2 hown hK hP 0 rfl rfl 11 (by decide) k50 (fun _ h9 => h9) rfl dX2_forget_9 ?_
  refine lv_iconst (v := 0) hx hb dX2_forget_12 (by decide) ?_
  refine va_put (D := D) (ci := 0) (ty := .int) (C := RX0) (T := TX0) (N := 4) hx hb hts hinX0 tyX0 tyX0_ok nmX0 hown hK hP hD hS 8 rfl rfl 3 (by decide) k101 (fun _ h9 => h9) rfl (by decide +kernel) rfl rfl (Nat.le_of_ble_eq_true rfl) dX2_forget_13 (fun H locs hP hD hS => ?_)
  have hP : va_P D vwCl (wB K a (pB_sz s 0)) H := hP
  have hD : va_D A (wB K a (pB_sz s 0)) := hD
  refine lv_iload_n hx hb dX2_forget_16 rfl (lv_at hl 0 rfl) ?_
  subst ex1
  exact rt_I hx hb hr hlk hK hP hD hS (pr_of (rfl)) dX2_forget_17

def f_X2_danced (s : SB) (k : Int32) : Int32 := if k < 0 then ((-1)) else (if 5 ≤ k then ((-1)) else ((gB_LD s) k.toNatClampNeg))
set_option maxHeartbeats 4000000 in
set_option maxRecDepth 100000 in
theorem c_X2_danced (l : Launch) (D : va_G) (K : ClassId × ClassId × ClassId) (a : Nat → Nat) (s : SB) (k : Int32)   : MetI l yX2_danced wsX2_danced { frames := 0, cells := 0, slots := 0, locals := 0 } D vwCl (tyK K) (wB K a) [.ref (a 0), .int k] s (f_X2_danced s k) s := by
  intro sz0
  refine en_W (cc := cX2_danced) (maxL := 2) (ret := (some .int)) (Qc := fun A => va_Qi (fun (x0 : Int32) (u0 : SB) => x0 = f_X2_danced s k ∧ u0 = s) (bs_a D vwCl (tyK K) (wB K a) A) A) (by decide) rfl (Nat.le_of_ble_eq_true rfl) ?_ sz0
  intro p e st m below meth c ls A hx hb hr hml hts hown hlk hA hK hP hD hS hl
  have hown : st.vm.findClass RX2 = some m.cls := hown
  have hl : lv_has ls 2 [(0, .ref (a 0)), (1, .int k)] := hl
  have hinX2 : ∀ w ∈ u_ws RX2 TX2 15, w ∈ wsX2_danced := fun w h => List.mem_cons_of_mem _ (List.mem_append_right _ h)
  have k60 := hts (.fieldLink RX2 60 "PuppetBar" "latestDance" "[I") (by decide +kernel)
  refine lv_iload_n hx hb dX2_danced_0 rfl (lv_at hl 1 rfl) ?_
  refine lv_if_lt (tgt := 18) hx hb dX2_danced_1 (by decide) (fun c_1 => ?_) (fun c_1 => ?_)
  · refine lv_iconst (v := (-1)) hx hb dX2_danced_18 (by decide) ?_
    exact rt_I hx hb hr hlk hK hP hD hS ⟨Eq.symm (Eq.trans (if_pos c_1) (rfl)), rfl⟩ dX2_danced_19
  · refine lv_iload_n hx hb dX2_danced_4 rfl (lv_at hl 1 rfl) ?_
    refine lv_iconst (v := 5) hx hb dX2_danced_5 (by decide) ?_
    refine lv_icmp_ge (tgt := 18) hx hb dX2_danced_6 (by decide) (fun c_6 => ?_) (fun c_6 => ?_)
    · refine lv_iconst (v := (-1)) hx hb dX2_danced_18 (by decide) ?_
      exact rt_I hx hb hr hlk hK hP hD hS ⟨Eq.symm (Eq.trans (if_neg c_1) (Eq.trans (if_pos c_6) (rfl))), rfl⟩ dX2_danced_19
    · refine lv_aload_n hx hb dX2_danced_9 rfl (lv_at hl 0 rfl) ?_
      refine va_get (D := D) (ci := 1) (C := RX2) (T := TX2) (N := 15) hx hb hts hinX2 hown hK hP 0 rfl rfl 14 (by decide) k60 (fun _ h9 => h9) rfl dX2_danced_10 ?_
      refine lv_iload_n hx hb dX2_danced_13 rfl (lv_at hl 1 rfl) ?_
      refine va_iald hx hb hK hP 10 0 rfl rfl (in_of c_1 c_6 rfl (by decide)) dX2_danced_14 ?_
      refine lv_goto (tgt := 19) hx hb dX2_danced_15 (by decide) ?_
      exact rt_I hx hb hr hlk hK hP hD hS ⟨Eq.symm (Eq.trans (if_neg c_1) (Eq.trans (if_neg c_6) (rfl))), rfl⟩ dX2_danced_19

def f_X2_bar (s : SB) (k : Int32) : Int64 := if k = 0 then (gB_ti s) else (if k = 1 then (Int32.toInt64 (gB_we s)) else (if k = 2 then (Int32.toInt64 (gB_co s)) else (if k = 3 then (gB_tu s) else (0))))
set_option maxHeartbeats 4000000 in
set_option maxRecDepth 100000 in
theorem c_X2_bar (l : Launch) (D : va_G) (K : ClassId × ClassId × ClassId) (a : Nat → Nat) (s : SB) (k : Int32)   : MetL l yX2_bar wsX2_bar { frames := 0, cells := 0, slots := 0, locals := 0 } D vwCl (tyK K) (wB K a) [.ref (a 0), .int k] s (f_X2_bar s k) s := by
  intro sz0
  refine en_W (cc := cX2_bar) (maxL := 2) (ret := (some .long)) (Qc := fun A => va_Ql (fun (x0 : Int64) (u0 : SB) => x0 = f_X2_bar s k ∧ u0 = s) (bs_a D vwCl (tyK K) (wB K a) A) A) (by decide) rfl (Nat.le_of_ble_eq_true rfl) ?_ sz0
  intro p e st m below meth c ls A hx hb hr hml hts hown hlk hA hK hP hD hS hl
  have hown : st.vm.findClass RX2 = some m.cls := hown
  have hl : lv_has ls 2 [(0, .ref (a 0)), (1, .int k)] := hl
  have hinX2 : ∀ w ∈ u_ws RX2 TX2 15, w ∈ wsX2_bar := fun w h => List.mem_cons_of_mem _ (List.mem_append_right _ h)
  have k33 := hts (.fieldLink RX2 33 "PuppetBar" "tilt" "J") (by decide +kernel)
  have k37 := hts (.fieldLink RX2 37 "PuppetBar" "weight" "I") (by decide +kernel)
  have k41 := hts (.fieldLink RX2 41 "PuppetBar" "count" "I") (by decide +kernel)
  have k44 := hts (.fieldLink RX2 44 "PuppetBar" "turn" "J") (by decide +kernel)
  refine lv_iload_n hx hb dX2_bar_0 rfl (lv_at hl 1 rfl) ?_
  by_cases c_1_0 : k = 0
  · refine lv_tableIn (tgt := 32) (off := 31) hx hb dX2_bar_1 (by rw [c_1_0]; decide) (by rw [c_1_0]; decide) (by rw [c_1_0]; rfl) (by decide) ?_
    refine lv_aload_n hx hb dX2_bar_32 rfl (lv_at hl 0 rfl) ?_
    refine va_get (D := D) (ci := 1) (C := RX2) (T := TX2) (N := 15) hx hb hts hinX2 hown hK hP 0 rfl rfl 7 (by decide) k33 (fun _ h9 => h9) rfl dX2_bar_33 ?_
    exact rt_L hx hb hr hlk hK hP hD hS ⟨Eq.symm (Eq.trans (if_pos c_1_0) (rfl)), rfl⟩ dX2_bar_36
  by_cases c_1_1 : k = 1
  · refine lv_tableIn (tgt := 37) (off := 36) hx hb dX2_bar_1 (by rw [c_1_1]; decide) (by rw [c_1_1]; decide) (by rw [c_1_1]; rfl) (by decide) ?_
    refine lv_aload_n hx hb dX2_bar_37 rfl (lv_at hl 0 rfl) ?_
    refine va_get (D := D) (ci := 1) (C := RX2) (T := TX2) (N := 15) hx hb hts hinX2 hown hK hP 0 rfl rfl 8 (by decide) k37 (fun _ h9 => h9) rfl dX2_bar_38 ?_
    refine lv_i2l hx hb dX2_bar_41 rfl ?_
    exact rt_L hx hb hr hlk hK hP hD hS ⟨Eq.symm (Eq.trans (if_neg c_1_0) (Eq.trans (if_pos c_1_1) (rfl))), rfl⟩ dX2_bar_42
  by_cases c_1_2 : k = 2
  · refine lv_tableIn (tgt := 43) (off := 42) hx hb dX2_bar_1 (by rw [c_1_2]; decide) (by rw [c_1_2]; decide) (by rw [c_1_2]; rfl) (by decide) ?_
    refine lv_aload_n hx hb dX2_bar_43 rfl (lv_at hl 0 rfl) ?_
    refine va_get (D := D) (ci := 1) (C := RX2) (T := TX2) (N := 15) hx hb hts hinX2 hown hK hP 0 rfl rfl 9 (by decide) k41 (fun _ h9 => h9) rfl dX2_bar_44 ?_
    refine lv_i2l hx hb dX2_bar_47 rfl ?_
    exact rt_L hx hb hr hlk hK hP hD hS ⟨Eq.symm (Eq.trans (if_neg c_1_0) (Eq.trans (if_neg c_1_1) (Eq.trans (if_pos c_1_2) (rfl)))), rfl⟩ dX2_bar_48
  by_cases c_1_3 : k = 3
  · refine lv_tableIn (tgt := 49) (off := 48) hx hb dX2_bar_1 (by rw [c_1_3]; decide) (by rw [c_1_3]; decide) (by rw [c_1_3]; rfl) (by decide) ?_
    refine lv_aload_n hx hb dX2_bar_49 rfl (lv_at hl 0 rfl) ?_
    refine va_get (D := D) (ci := 1) (C := RX2) (T := TX2) (N := 15) hx hb hts hinX2 hown hK hP 0 rfl rfl 10 (by decide) k44 (fun _ h9 => h9) rfl dX2_bar_50 ?_
    exact rt_L hx hb hr hlk hK hP hD hS ⟨Eq.symm (Eq.trans (if_neg c_1_0) (Eq.trans (if_neg c_1_1) (Eq.trans (if_neg c_1_2) (Eq.trans (if_pos c_1_3) (rfl))))), rfl⟩ dX2_bar_53
  have n_1_0 := sw_i c_1_0 (k := 0) (by decide)
  have n_1_1 := sw_i c_1_1 (k := 1) (by decide)
  have n_1_2 := sw_i c_1_2 (k := 2) (by decide)
  have n_1_3 := sw_i c_1_3 (k := 3) (by decide)
  refine lv_tableOut (tgt := 54) hx hb dX2_bar_1 (by omega) (by decide) ?_
  refine lv_lconst (v := 0) hx hb dX2_bar_54 (by decide) ?_
  exact rt_L hx hb hr hlk hK hP hD hS ⟨Eq.symm (Eq.trans (if_neg c_1_0) (Eq.trans (if_neg c_1_1) (Eq.trans (if_neg c_1_2) (Eq.trans (if_neg c_1_3) (rfl))))), rfl⟩ dX2_bar_55
