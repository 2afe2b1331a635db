def f_X3_move (s : SM) (n : Int32) (t : Int32) (u : Int32) : Int32 × SM := if (f_X3_lackOf s n t u) ≤ 0 then (let x2 := (f_X3_moved_A (pM_re s (f_X3_lackOf s n t u)) n t u).1; let s1 := (f_X3_moved_A (pM_re s (f_X3_lackOf s n t u)) n t u).2; (x2, s1)) else (((-1), pM_re s (f_X3_lackOf s n t u)))
set_option maxHeartbeats 4000000 in
set_option maxRecDepth 100000 in
theorem c_X3_move (l : Launch) (D : va_G) (K : ClassId × ClassId × ClassId) (a : Nat → Nat) (s : SM) (n : Int32) (t : Int32) (u : Int32)   : MetI l yX3_move wsX3_move { frames := 7, cells := 0, slots := 0, locals := 167 } D vwCl (tyK K) (wM K a) [.ref (a 0), .int n, .int t, .int u] s (f_X3_move s n t u).1 (f_X3_move s n t u).2 := by
  intro sz0
  refine en_W (cc := cX3_move) (maxL := 4) (ret := (some .int)) (Qc := fun A => va_Qi (fun (x0 : Int32) (u0 : SM) => x0 = (f_X3_move s n t u).1 ∧ u0 = (f_X3_move s n t u).2) (bs_a D vwCl (tyK K) (wM K a) A) A) (by decide) rfl (Nat.le_of_ble_eq_true rfl) ?_ sz0
  intro p e st m below meth c ls A hx hb hr hml hts hown hlk hA hK hP hD hS hl
  have hown : st.vm.findClass RX3 = some m.cls := hown
  have hl : lv_has ls 4 [(0, .ref (a 0)), (1, .int n), (2, .int t), (3, .int u)] := hl
  have hinX3 : ∀ w ∈ u_ws RX3 TX3 21, w ∈ wsX3_move := fun w h => List.mem_cons_of_mem _ (List.mem_append_right _ h)
  have k114 := hts (.fieldLink RX3 114 "PuppetBarModel" "refusal" "I") (by decide +kernel)
  have k51 := hts (.fieldLink RX3 51 "PuppetBarModel" "alone" "[I") (by decide +kernel)
  refine lv_aload_n hx hb dX3_move_0 rfl (lv_at hl 0 rfl) ?_
  refine lv_aload_n hx hb dX3_move_1 rfl (lv_at hl 0 rfl) ?_
  refine lv_iload_n hx hb dX3_move_2 rfl (lv_at hl 1 rfl) ?_
  refine lv_iload_n hx hb dX3_move_3 rfl (lv_at hl 2 rfl) ?_
  refine lv_iload_n hx hb dX3_move_4 rfl (lv_at hl 3 rfl) ?_
  refine cl_I (c_X3_lackOf l D K a _ _ _ _ ) ⟨hx, hb, hml, hown, hts⟩ (cwV 3 hts gX3_move_X3_lackOf rfl rfl rfl (by decide +kernel) ⟨Nat.le_of_ble_eq_true rfl, Nat.le_of_ble_eq_true rfl⟩) hK hP hD hS hA rfl rfl rfl rfl hl.1 rfl (Nat.le_of_ble_eq_true rfl) (Nat.zero_le _) (Nat.zero_le _) dX3_move_5 (fun H locs hP hD hS => ?_)
  refine va_put (D := D) (ci := 2) (ty := .int) (C := RX3) (T := TX3) (N := 21) hx hb hts hinX3 tyX3 tyX3_ok nmX3 hown hK hP hD hS 0 rfl rfl 11 (by decide) k114 (fun _ h9 => h9) rfl (by decide +kernel) rfl rfl (Nat.le_of_ble_eq_true rfl) dX3_move_8 (fun H locs hP hD hS => ?_)
  have hP : va_P D vwCl (wM K a (pM_re s (f_X3_lackOf s n t u))) H := hP
  have hD : va_D A (wM K a (pM_re s (f_X3_lackOf s n t u))) := hD
  refine lv_aload_n hx hb dX3_move_11 rfl (lv_at hl 0 rfl) ?_
  refine va_get (D := D) (ci := 2) (C := RX3) (T := TX3) (N := 21) hx hb hts hinX3 hown hK hP 0 rfl rfl 11 (by decide) k114 (fun _ h9 => h9) rfl dX3_move_12 ?_
  refine lv_if_le (tgt := 22) hx hb dX3_move_15 (by decide) (fun c_15 => ?_) (fun c_15 => ?_)
  · refine lv_aload_n hx hb dX3_move_22 rfl (lv_at hl 0 rfl) ?_
    refine lv_iload_n hx hb dX3_move_23 rfl (lv_at hl 1 rfl) ?_
    refine lv_iload_n hx hb dX3_move_24 rfl (lv_at hl 2 rfl) ?_
    refine lv_iload_n hx hb dX3_move_25 rfl (lv_at hl 3 rfl) ?_
    refine lv_aload_n hx hb dX3_move_26 rfl (lv_at hl 0 rfl) ?_
    refine va_get (D := D) (ci := 2) (C := RX3) (T := TX3) (N := 21) hx hb hts hinX3 hown hK hP 0 rfl rfl 20 (by decide) k51 (fun _ h9 => h9) rfl dX3_move_27 ?_
    refine cl_I (c_X3_moved_A l D K a _ _ _ _ (hm_of c_15).1 (hm_of c_15).2) ⟨hx, hb, hml, hown, hts⟩ (cwV 4 hts gX3_move_X3_moved rfl rfl rfl (by decide +kernel) ⟨Nat.le_of_ble_eq_true rfl, Nat.le_of_ble_eq_true rfl⟩) hK hP hD hS hA rfl rfl rfl rfl hl.1 rfl (Nat.le_of_ble_eq_true rfl) (Nat.zero_le _) (Nat.zero_le _) dX3_move_30 (fun H locs hP hD hS => ?_)
    obtain ⟨s1, es1⟩ : ∃ zz : SM, (f_X3_moved_A (pM_re s (f_X3_lackOf s n t u)) n t u).2 = zz := ⟨_, rfl⟩
    rw [es1] at hP hD
    refine tpi (fun x2 ex2 => ?_)
    subst es1 ex2
    exact rt_I hx hb hr hlk hK hP hD hS (pr_of (Eq.trans (if_pos c_15) (rfl))) dX3_move_33
  · refine lv_iconst (v := (-1)) hx hb dX3_move_18 (by decide) ?_
    refine lv_goto (tgt := 33) hx hb dX3_move_19 (by decide) ?_
    exact rt_I hx hb hr hlk hK hP hD hS (pr_of (Eq.trans (if_neg c_15) (rfl))) dX3_move_33
