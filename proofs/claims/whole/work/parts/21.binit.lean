def sBz : SB := ((((fun _ => 0), (fun _ => 0), (fun _ => 0), (fun _ => 0), (fun _ => 0), (fun _ => 0)), (0, 0, 0, 0)), (fun _ => 0), 0, (fun _ => 0), (fun _ => 0), (fun _ => 0), (fun _ => 0), (fun _ => 0), 0)
def sB0 : SB := f_X2_stringAnew (f_X2_stringAnew (f_X2_stringAnew (f_X2_stringAnew (f_X2_stringAnew (f_X2_stringAnew (f_X2_stringAnew (f_X2_stringAnew (sBz) 0) 1) 2) 3) 4) 5) 6) 7
set_option maxHeartbeats 4000000 in
set_option maxRecDepth 100000 in
theorem c_X2_init (l : Launch) (D : va_G) (h0 sz : Nat) : Met l yX2_init wsX2_init { frames := 2, cells := 13, slots := 190, locals := 32 } (va_Pc [.ref h0] (fun U => (U.heap.size = sz ∧ va_P D vwCl [(h0, .inr (1, [.null, .null, .null, .null, .null, .null, .null, .long 0, .int 0, .int 0, .long 0, .null, .int 0, .null, .null]))] U.heap ∧ va_K D vwCl [] U ∧ va_D (fun _ => True) [(h0, .inr (1, [.null, .null, .null, .null, .null, .null, .null, .long 0, .int 0, .int 0, .long 0, .null, .int 0, .null, .null]))]) ∧ va_Nw (.methodLinkNest RX2 49 yX0_init "PuppetBar") U)) (va_Qv (fun u : (ClassId × ClassId × ClassId) × (Nat → Nat) => u.2 0 = h0) (fun u t => va_P D vwCl (wB u.1 u.2 sB0) t.heap ∧ va_K D vwCl (tyK u.1) t ∧ va_D (va_A [(h0, .inr (1, [.null, .null, .null, .null, .null, .null, .null, .long 0, .int 0, .int 0, .long 0, .null, .int 0, .null, .null]))] sz) (wB u.1 u.2 sB0)) (va_A [(h0, .inr (1, [.null, .null, .null, .null, .null, .null, .null, .long 0, .int 0, .int 0, .long 0, .null, .int 0, .null, .null]))] sz)) 13 190 (va_A [(h0, .inr (1, [.null, .null, .null, .null, .null, .null, .null, .long 0, .int 0, .int 0, .long 0, .null, .int 0, .null, .null]))] sz) := by
  refine Met.ofW (cc := cX2_init) (maxL := 2) (ret := none) (by decide) rfl ?_
  intro p e st m args below meth c s₁ B hml hv
  obtain ⟨rfl, ⟨hsz, hP, hK, hD0⟩, hnw⟩ := hv
  have hx := B.exec
  have hb := B.bytes
  have hr := B.returns
  have hts := atoms_spec (ws := wsX2_init) B.pre
  have hown : st.vm.findClass RX2 = some m.cls := findClass_of_methodNamed B.named
  have hlk := B.notSynchronized
  have hinit : meth.name = "<init>" := (name_of_methodNamed B.named B.method).1
  subst hsz
  have hD := hD0.self (sz := st.heap.size)
  generalize hAe : va_A [(h0, .inr (1, [.null, .null, .null, .null, .null, .null, .null, .long 0, .int 0, .int 0, .long 0, .null, .int 0, .null, .null]))] st.heap.size = A at hD ⊢
  have hA : ∀ q : Nat, st.heap.size ≤ q → A q := fun q h => by rw [← hAe]; exact Or.inr h
  have hS : va_S A st.heap st.heap [] := va_S.rf
  have hP : va_P D vwCl [(h0, .inr (1, [.null, .null, .null, .null, .null, .null, .null, .long 0, .int 0, .int 0, .long 0, .null, .int 0, .null, .null]))] st.heap := hP
  have hl := lv_entry ([.ref h0]) (n := 2) (Nat.le_of_ble_eq_true rfl)
  rw [lg_entry_eq]
  generalize (lg_sl ([.ref h0]) ++ List.replicate (2 - (lg_sl ([.ref h0])).length) Slot.unset).toArray = ls at hl ⊢
  have hl : lv_has ls 2 [(0, .ref h0)] := hl
  have hinX2 : ∀ w ∈ u_ws RX2 TX2 15, w ∈ wsX2_init := fun w h => List.mem_cons_of_mem _ (List.mem_append_left _ (List.mem_append_right _ h))
  have hinX0 : ∀ w ∈ u_ws RX0 TX0 4, w ∈ wsX2_init := fun w h => List.mem_cons_of_mem _ (List.mem_append_right _ h)
  refine lv_aload_n hx hb dX2_init_0 rfl (lv_at hl 0 rfl) ?_
  refine W.objInit hx hb hown (hts (.methodLink RX2 1 objectInit) (by decide +kernel)) (hts (.instanceMethod objectInit) (by decide +kernel)) (hts (.code objectInit ⟨#[0xb1]⟩ 1 none) (by decide +kernel)) rfl (by rw [hml]; exact hl.1) rfl dX2_init_1 (Nat.le_of_ble_eq_true rfl) (Nat.le_of_ble_eq_true rfl) ?_
  refine W.eq (g2 := F0 m 4 ls []) rfl ?_
  refine lv_aload_n hx hb dX2_init_4 rfl (lv_at hl 0 rfl) ?_
  refine lv_bipush (v := 8) hx hb dX2_init_5 (by decide) ?_
  refine va_newa (atype := .long) (n := 8) (a0 := (8, .inr (.inl (fun _ => 0)))) (N' := 8) (ty := .long) hx hb (hts (.arrayClass .long) (by decide +kernel)) rfl hK hP hD hS hA (fun _ => rfl) (by decide) (by decide) (by decide) (Nat.le_of_ble_eq_true rfl) (Nat.le_of_ble_eq_true rfl) dX2_init_7 (fun q1 cJ1 H hK hP hD hS => ?_)
  have hK : va_K D vwCl [(cJ1, .long)] st := hK
  have hP : va_P D vwCl [(h0, .inr (1, [.null, .null, .null, .null, .null, .null, .null, .long 0, .int 0, .int 0, .long 0, .null, .int 0, .null, .null])), (q1, .inl (cJ1, 8, .inr (.inl (fun _ => 0))))] H := hP
  have hD : va_D A [(h0, .inr (1, [.null, .null, .null, .null, .null, .null, .null, .long 0, .int 0, .int 0, .long 0, .null, .int 0, .null, .null])), (q1, .inl (cJ1, 8, .inr (.inl (fun _ => 0))))] := hD
  refine W.widen (k := 1) (n := 8) (Nat.le_of_ble_eq_true rfl) (Nat.le_of_ble_eq_true rfl) ?_
  refine va_putF (D := D) (ci := 1) (v := .ref q1) (ty := .array .long) (C := RX2) (T := TX2) (N := 15) hx hb hts hinX2 tyX2 tyX2_ok nmX2 hown hK hP hD hS 0 rfl rfl 0 (by decide) (hts (.fieldLink RX2 9 "PuppetBar" "lengths" "[J") (by decide +kernel)) (fun _ h9 => h9) rfl hinit rfl (by decide +kernel) rfl rfl (Nat.le_of_ble_eq_true rfl) dX2_init_9 (fun H locs hP hD hS => ?_)
  have hP : va_P D vwCl [(h0, .inr (1, [.ref q1, .null, .null, .null, .null, .null, .null, .long 0, .int 0, .int 0, .long 0, .null, .int 0, .null, .null])), (q1, .inl (cJ1, 8, .inr (.inl (fun _ => 0))))] H := hP
  have hD : va_D A [(h0, .inr (1, [.ref q1, .null, .null, .null, .null, .null, .null, .long 0, .int 0, .int 0, .long 0, .null, .int 0, .null, .null])), (q1, .inl (cJ1, 8, .inr (.inl (fun _ => 0))))] := hD
  refine lv_aload_n hx hb dX2_init_12 rfl (lv_at hl 0 rfl) ?_
  refine lv_bipush (v := 8) hx hb dX2_init_13 (by decide) ?_
  refine va_newa (atype := .int) (n := 8) (a0 := (8, .inl (fun _ => 0))) (N' := 8) (ty := .int) hx hb (hts (.arrayClass .int) (by decide +kernel)) rfl hK hP hD hS hA (fun _ => rfl) (by decide) (by decide) (by decide) (Nat.le_of_ble_eq_true rfl) (Nat.le_of_ble_eq_true rfl) dX2_init_15 (fun q2 cI2 H hK hP hD hS => ?_)
  have hK : va_K D vwCl [(cJ1, .long), (cI2, .int)] st := hK
  have hP : va_P D vwCl [(h0, .inr (1, [.ref q1, .null, .null, .null, .null, .null, .null, .long 0, .int 0, .int 0, .long 0, .null, .int 0, .null, .null])), (q1, .inl (cJ1, 8, .inr (.inl (fun _ => 0)))), (q2, .inl (cI2, 8, .inl (fun _ => 0)))] H := hP
  have hD : va_D A [(h0, .inr (1, [.ref q1, .null, .null, .null, .null, .null, .null, .long 0, .int 0, .int 0, .long 0, .null, .int 0, .null, .null])), (q1, .inl (cJ1, 8, .inr (.inl (fun _ => 0)))), (q2, .inl (cI2, 8, .inl (fun _ => 0)))] := hD
  refine W.widen (k := 2) (n := 16) (Nat.le_of_ble_eq_true rfl) (Nat.le_of_ble_eq_true rfl) ?_
  refine va_putF (D := D) (ci := 1) (v := .ref q2) (ty := .array .int) (C := RX2) (T := TX2) (N := 15) hx hb hts hinX2 tyX2 tyX2_ok nmX2 hown hK hP hD hS 0 rfl rfl 1 (by decide) (hts (.fieldLink RX2 13 "PuppetBar" "pulls" "[I") (by decide +kernel)) (fun _ h9 => h9) rfl hinit rfl (by decide +kernel) rfl rfl (Nat.le_of_ble_eq_true rfl) dX2_init_17 (fun H locs hP hD hS => ?_)
  have hP : va_P D vwCl [(h0, .inr (1, [.ref q1, .ref q2, .null, .null, .null, .null, .null, .long 0, .int 0, .int 0, .long 0, .null, .int 0, .null, .null])), (q1, .inl (cJ1, 8, .inr (.inl (fun _ => 0)))), (q2, .inl (cI2, 8, .inl (fun _ => 0)))] H := hP
  have hD : va_D A [(h0, .inr (1, [.ref q1, .ref q2, .null, .null, .null, .null, .null, .long 0, .int 0, .int 0, .long 0, .null, .int 0, .null, .null])), (q1, .inl (cJ1, 8, .inr (.inl (fun _ => 0)))), (q2, .inl (cI2, 8, .inl (fun _ => 0)))] := hD
  refine lv_aload_n hx hb dX2_init_20 rfl (lv_at hl 0 rfl) ?_
  refine lv_bipush (v := 8) hx hb dX2_init_21 (by decide) ?_
  refine va_newa (atype := .int) (n := 8) (a0 := (8, .inl (fun _ => 0))) (N' := 8) (ty := .int) hx hb (hts (.arrayClass .int) (by decide +kernel)) rfl hK hP hD hS hA (fun _ => rfl) (by decide) (by decide) (by decide) (Nat.le_of_ble_eq_true rfl) (Nat.le_of_ble_eq_true rfl) dX2_init_23 (fun q3 cI3 H hK hP hD hS => ?_)
  have ec3 : cI2 = cI3 := ka_I hK (i := 1) (j := 2) rfl rfl
  subst ec3
  have hK : va_K D vwCl [(cJ1, .long), (cI2, .int)] st := hK.sub [0, 1] rfl
  have hP : va_P D vwCl [(h0, .inr (1, [.ref q1, .ref q2, .null, .null, .null, .null, .null, .long 0, .int 0, .int 0, .long 0, .null, .int 0, .null, .null])), (q1, .inl (cJ1, 8, .inr (.inl (fun _ => 0)))), (q2, .inl (cI2, 8, .inl (fun _ => 0))), (q3, .inl (cI2, 8, .inl (fun _ => 0)))] H := hP
  have hD : va_D A [(h0, .inr (1, [.ref q1, .ref q2, .null, .null, .null, .null, .null, .long 0, .int 0, .int 0, .long 0, .null, .int 0, .null, .null])), (q1, .inl (cJ1, 8, .inr (.inl (fun _ => 0)))), (q2, .inl (cI2, 8, .inl (fun _ => 0))), (q3, .inl (cI2, 8, .inl (fun _ => 0)))] := hD
  refine W.widen (k := 3) (n := 24) (Nat.le_of_ble_eq_true rfl) (Nat.le_of_ble_eq_true rfl) ?_
  refine va_putF (D := D) (ci := 1) (v := .ref q3) (ty := .array .int) (C := RX2) (T := TX2) (N := 15) hx hb hts hinX2 tyX2 tyX2_ok nmX2 hown hK hP hD hS 0 rfl rfl 2 (by decide) (hts (.fieldLink RX2 17 "PuppetBar" "knots" "[I") (by decide +kernel)) (fun _ h9 => h9) rfl hinit rfl (by decide +kernel) rfl rfl (Nat.le_of_ble_eq_true rfl) dX2_init_25 (fun H locs hP hD hS => ?_)
  have hP : va_P D vwCl [(h0, .inr (1, [.ref q1, .ref q2, .ref q3, .null, .null, .null, .null, .long 0, .int 0, .int 0, .long 0, .null, .int 0, .null, .null])), (q1, .inl (cJ1, 8, .inr (.inl (fun _ => 0)))), (q2, .inl (cI2, 8, .inl (fun _ => 0))), (q3, .inl (cI2, 8, .inl (fun _ => 0)))] H := hP
  have hD : va_D A [(h0, .inr (1, [.ref q1, .ref q2, .ref q3, .null, .null, .null, .null, .long 0, .int 0, .int 0, .long 0, .null, .int 0, .null, .null])), (q1, .inl (cJ1, 8, .inr (.inl (fun _ => 0)))), (q2, .inl (cI2, 8, .inl (fun _ => 0))), (q3, .inl (cI2, 8, .inl (fun _ => 0)))] := hD
  refine lv_aload_n hx hb dX2_init_28 rfl (lv_at hl 0 rfl) ?_
  refine lv_bipush (v := 8) hx hb dX2_init_29 (by decide) ?_
  refine va_newa (atype := .long) (n := 8) (a0 := (8, .inr (.inl (fun _ => 0)))) (N' := 8) (ty := .long) hx hb (hts (.arrayClass .long) (by decide +kernel)) rfl hK hP hD hS hA (fun _ => rfl) (by decide) (by decide) (by decide) (Nat.le_of_ble_eq_true rfl) (Nat.le_of_ble_eq_true rfl) dX2_init_31 (fun q4 cJ4 H hK hP hD hS => ?_)
  have ec4 : cJ1 = cJ4 := ka_J hK (i := 0) (j := 2) rfl rfl
  subst ec4
  have hK : va_K D vwCl [(cJ1, .long), (cI2, .int)] st := hK.sub [0, 1] rfl
  have hP : va_P D vwCl [(h0, .inr (1, [.ref q1, .ref q2, .ref q3, .null, .null, .null, .null, .long 0, .int 0, .int 0, .long 0, .null, .int 0, .null, .null])), (q1, .inl (cJ1, 8, .inr (.inl (fun _ => 0)))), (q2, .inl (cI2, 8, .inl (fun _ => 0))), (q3, .inl (cI2, 8, .inl (fun _ => 0))), (q4, .inl (cJ1, 8, .inr (.inl (fun _ => 0))))] H := hP
  have hD : va_D A [(h0, .inr (1, [.ref q1, .ref q2, .ref q3, .null, .null, .null, .null, .long 0, .int 0, .int 0, .long 0, .null, .int 0, .null, .null])), (q1, .inl (cJ1, 8, .inr (.inl (fun _ => 0)))), (q2, .inl (cI2, 8, .inl (fun _ => 0))), (q3, .inl (cI2, 8, .inl (fun _ => 0))), (q4, .inl (cJ1, 8, .inr (.inl (fun _ => 0))))] := hD
  refine W.widen (k := 4) (n := 32) (Nat.le_of_ble_eq_true rfl) (Nat.le_of_ble_eq_true rfl) ?_
  refine va_putF (D := D) (ci := 1) (v := .ref q4) (ty := .array .long) (C := RX2) (T := TX2) (N := 15) hx hb hts hinX2 tyX2 tyX2_ok nmX2 hown hK hP hD hS 0 rfl rfl 3 (by decide) (hts (.fieldLink RX2 20 "PuppetBar" "twists" "[J") (by decide +kernel)) (fun _ h9 => h9) rfl hinit rfl (by decide +kernel) rfl rfl (Nat.le_of_ble_eq_true rfl) dX2_init_33 (fun H locs hP hD hS => ?_)
  have hP : va_P D vwCl [(h0, .inr (1, [.ref q1, .ref q2, .ref q3, .ref q4, .null, .null, .null, .long 0, .int 0, .int 0, .long 0, .null, .int 0, .null, .null])), (q1, .inl (cJ1, 8, .inr (.inl (fun _ => 0)))), (q2, .inl (cI2, 8, .inl (fun _ => 0))), (q3, .inl (cI2, 8, .inl (fun _ => 0))), (q4, .inl (cJ1, 8, .inr (.inl (fun _ => 0))))] H := hP
  have hD : va_D A [(h0, .inr (1, [.ref q1, .ref q2, .ref q3, .ref q4, .null, .null, .null, .long 0, .int 0, .int 0, .long 0, .null, .int 0, .null, .null])), (q1, .inl (cJ1, 8, .inr (.inl (fun _ => 0)))), (q2, .inl (cI2, 8, .inl (fun _ => 0))), (q3, .inl (cI2, 8, .inl (fun _ => 0))), (q4, .inl (cJ1, 8, .inr (.inl (fun _ => 0))))] := hD
  refine lv_aload_n hx hb dX2_init_36 rfl (lv_at hl 0 rfl) ?_
  refine lv_bipush (v := 8) hx hb dX2_init_37 (by decide) ?_
  refine va_newa (atype := .long) (n := 8) (a0 := (8, .inr (.inl (fun _ => 0)))) (N' := 8) (ty := .long) hx hb (hts (.arrayClass .long) (by decide +kernel)) rfl hK hP hD hS hA (fun _ => rfl) (by decide) (by decide) (by decide) (Nat.le_of_ble_eq_true rfl) (Nat.le_of_ble_eq_true rfl) dX2_init_39 (fun q5 cJ5 H hK hP hD hS => ?_)
  have ec5 : cJ1 = cJ5 := ka_J hK (i := 0) (j := 2) rfl rfl
  subst ec5
  have hK : va_K D vwCl [(cJ1, .long), (cI2, .int)] st := hK.sub [0, 1] rfl
  have hP : va_P D vwCl [(h0, .inr (1, [.ref q1, .ref q2, .ref q3, .ref q4, .null, .null, .null, .long 0, .int 0, .int 0, .long 0, .null, .int 0, .null, .null])), (q1, .inl (cJ1, 8, .inr (.inl (fun _ => 0)))), (q2, .inl (cI2, 8, .inl (fun _ => 0))), (q3, .inl (cI2, 8, .inl (fun _ => 0))), (q4, .inl (cJ1, 8, .inr (.inl (fun _ => 0)))), (q5, .inl (cJ1, 8, .inr (.inl (fun _ => 0))))] H := hP
  have hD : va_D A [(h0, .inr (1, [.ref q1, .ref q2, .ref q3, .ref q4, .null, .null, .null, .long 0, .int 0, .int 0, .long 0, .null, .int 0, .null, .null])), (q1, .inl (cJ1, 8, .inr (.inl (fun _ => 0)))), (q2, .inl (cI2, 8, .inl (fun _ => 0))), (q3, .inl (cI2, 8, .inl (fun _ => 0))), (q4, .inl (cJ1, 8, .inr (.inl (fun _ => 0)))), (q5, .inl (cJ1, 8, .inr (.inl (fun _ => 0))))] := hD
  refine W.widen (k := 5) (n := 40) (Nat.le_of_ble_eq_true rfl) (Nat.le_of_ble_eq_true rfl) ?_
  refine va_putF (D := D) (ci := 1) (v := .ref q5) (ty := .array .long) (C := RX2) (T := TX2) (N := 15) hx hb hts hinX2 tyX2 tyX2_ok nmX2 hown hK hP hD hS 0 rfl rfl 4 (by decide) (hts (.fieldLink RX2 23 "PuppetBar" "lows" "[J") (by decide +kernel)) (fun _ h9 => h9) rfl hinit rfl (by decide +kernel) rfl rfl (Nat.le_of_ble_eq_true rfl) dX2_init_41 (fun H locs hP hD hS => ?_)
  have hP : va_P D vwCl [(h0, .inr (1, [.ref q1, .ref q2, .ref q3, .ref q4, .ref q5, .null, .null, .long 0, .int 0, .int 0, .long 0, .null, .int 0, .null, .null])), (q1, .inl (cJ1, 8, .inr (.inl (fun _ => 0)))), (q2, .inl (cI2, 8, .inl (fun _ => 0))), (q3, .inl (cI2, 8, .inl (fun _ => 0))), (q4, .inl (cJ1, 8, .inr (.inl (fun _ => 0)))), (q5, .inl (cJ1, 8, .inr (.inl (fun _ => 0))))] H := hP
  have hD : va_D A [(h0, .inr (1, [.ref q1, .ref q2, .ref q3, .ref q4, .ref q5, .null, .null, .long 0, .int 0, .int 0, .long 0, .null, .int 0, .null, .null])), (q1, .inl (cJ1, 8, .inr (.inl (fun _ => 0)))), (q2, .inl (cI2, 8, .inl (fun _ => 0))), (q3, .inl (cI2, 8, .inl (fun _ => 0))), (q4, .inl (cJ1, 8, .inr (.inl (fun _ => 0)))), (q5, .inl (cJ1, 8, .inr (.inl (fun _ => 0))))] := hD
  refine lv_aload_n hx hb dX2_init_44 rfl (lv_at hl 0 rfl) ?_
  refine lv_bipush (v := 8) hx hb dX2_init_45 (by decide) ?_
  refine va_newa (atype := .long) (n := 8) (a0 := (8, .inr (.inl (fun _ => 0)))) (N' := 8) (ty := .long) hx hb (hts (.arrayClass .long) (by decide +kernel)) rfl hK hP hD hS hA (fun _ => rfl) (by decide) (by decide) (by decide) (Nat.le_of_ble_eq_true rfl) (Nat.le_of_ble_eq_true rfl) dX2_init_47 (fun q6 cJ6 H hK hP hD hS => ?_)
  have ec6 : cJ1 = cJ6 := ka_J hK (i := 0) (j := 2) rfl rfl
  subst ec6
  have hK : va_K D vwCl [(cJ1, .long), (cI2, .int)] st := hK.sub [0, 1] rfl
  have hP : va_P D vwCl [(h0, .inr (1, [.ref q1, .ref q2, .ref q3, .ref q4, .ref q5, .null, .null, .long 0, .int 0, .int 0, .long 0, .null, .int 0, .null, .null])), (q1, .inl (cJ1, 8, .inr (.inl (fun _ => 0)))), (q2, .inl (cI2, 8, .inl (fun _ => 0))), (q3, .inl (cI2, 8, .inl (fun _ => 0))), (q4, .inl (cJ1, 8, .inr (.inl (fun _ => 0)))), (q5, .inl (cJ1, 8, .inr (.inl (fun _ => 0)))), (q6, .inl (cJ1, 8, .inr (.inl (fun _ => 0))))] H := hP
  have hD : va_D A [(h0, .inr (1, [.ref q1, .ref q2, .ref q3, .ref q4, .ref q5, .null, .null, .long 0, .int 0, .int 0, .long 0, .null, .int 0, .null, .null])), (q1, .inl (cJ1, 8, .inr (.inl (fun _ => 0)))), (q2, .inl (cI2, 8, .inl (fun _ => 0))), (q3, .inl (cI2, 8, .inl (fun _ => 0))), (q4, .inl (cJ1, 8, .inr (.inl (fun _ => 0)))), (q5, .inl (cJ1, 8, .inr (.inl (fun _ => 0)))), (q6, .inl (cJ1, 8, .inr (.inl (fun _ => 0))))] := hD
  refine W.widen (k := 6) (n := 48) (Nat.le_of_ble_eq_true rfl) (Nat.le_of_ble_eq_true rfl) ?_
  refine va_putF (D := D) (ci := 1) (v := .ref q6) (ty := .array .long) (C := RX2) (T := TX2) (N := 15) hx hb hts hinX2 tyX2 tyX2_ok nmX2 hown hK hP hD hS 0 rfl rfl 5 (by decide) (hts (.fieldLink RX2 26 "PuppetBar" "highs" "[J") (by decide +kernel)) (fun _ h9 => h9) rfl hinit rfl (by decide +kernel) rfl rfl (Nat.le_of_ble_eq_true rfl) dX2_init_49 (fun H locs hP hD hS => ?_)
  have hP : va_P D vwCl [(h0, .inr (1, [.ref q1, .ref q2, .ref q3, .ref q4, .ref q5, .ref q6, .null, .long 0, .int 0, .int 0, .long 0, .null, .int 0, .null, .null])), (q1, .inl (cJ1, 8, .inr (.inl (fun _ => 0)))), (q2, .inl (cI2, 8, .inl (fun _ => 0))), (q3, .inl (cI2, 8, .inl (fun _ => 0))), (q4, .inl (cJ1, 8, .inr (.inl (fun _ => 0)))), (q5, .inl (cJ1, 8, .inr (.inl (fun _ => 0)))), (q6, .inl (cJ1, 8, .inr (.inl (fun _ => 0))))] H := hP
  have hD : va_D A [(h0, .inr (1, [.ref q1, .ref q2, .ref q3, .ref q4, .ref q5, .ref q6, .null, .long 0, .int 0, .int 0, .long 0, .null, .int 0, .null, .null])), (q1, .inl (cJ1, 8, .inr (.inl (fun _ => 0)))), (q2, .inl (cI2, 8, .inl (fun _ => 0))), (q3, .inl (cI2, 8, .inl (fun _ => 0))), (q4, .inl (cJ1, 8, .inr (.inl (fun _ => 0)))), (q5, .inl (cJ1, 8, .inr (.inl (fun _ => 0)))), (q6, .inl (cJ1, 8, .inr (.inl (fun _ => 0))))] := hD
  refine lv_aload_n hx hb dX2_init_52 rfl (lv_at hl 0 rfl) ?_
  refine lv_bipush (v := 8) hx hb dX2_init_53 (by decide) ?_
  refine va_newa (atype := .boolean) (n := 8) (a0 := (8, .inl (fun _ => 0))) (N' := 8) (ty := .boolean) hx hb (hts (.arrayClass .boolean) (by decide +kernel)) rfl hK hP hD hS hA (fun _ => rfl) (by decide) (by decide) (by decide) (Nat.le_of_ble_eq_true rfl) (Nat.le_of_ble_eq_true rfl) dX2_init_55 (fun q7 cZ7 H hK hP hD hS => ?_)
  have hK : va_K D vwCl [(cJ1, .long), (cI2, .int), (cZ7, .boolean)] st := hK
  have hP : va_P D vwCl [(h0, .inr (1, [.ref q1, .ref q2, .ref q3, .ref q4, .ref q5, .ref q6, .null, .long 0, .int 0, .int 0, .long 0, .null, .int 0, .null, .null])), (q1, .inl (cJ1, 8, .inr (.inl (fun _ => 0)))), (q2, .inl (cI2, 8, .inl (fun _ => 0))), (q3, .inl (cI2, 8, .inl (fun _ => 0))), (q4, .inl (cJ1, 8, .inr (.inl (fun _ => 0)))), (q5, .inl (cJ1, 8, .inr (.inl (fun _ => 0)))), (q6, .inl (cJ1, 8, .inr (.inl (fun _ => 0)))), (q7, .inl (cZ7, 8, .inl (fun _ => 0)))] H := hP
  have hD : va_D A [(h0, .inr (1, [.ref q1, .ref q2, .ref q3, .ref q4, .ref q5, .ref q6, .null, .long 0, .int 0, .int 0, .long 0, .null, .int 0, .null, .null])), (q1, .inl (cJ1, 8, .inr (.inl (fun _ => 0)))), (q2, .inl (cI2, 8, .inl (fun _ => 0))), (q3, .inl (cI2, 8, .inl (fun _ => 0))), (q4, .inl (cJ1, 8, .inr (.inl (fun _ => 0)))), (q5, .inl (cJ1, 8, .inr (.inl (fun _ => 0)))), (q6, .inl (cJ1, 8, .inr (.inl (fun _ => 0)))), (q7, .inl (cZ7, 8, .inl (fun _ => 0)))] := hD
  refine W.widen (k := 7) (n := 56) (Nat.le_of_ble_eq_true rfl) (Nat.le_of_ble_eq_true rfl) ?_
  refine va_putF (D := D) (ci := 1) (v := .ref q7) (ty := .array .boolean) (C := RX2) (T := TX2) (N := 15) hx hb hts hinX2 tyX2 tyX2_ok nmX2 hown hK hP hD hS 0 rfl rfl 6 (by decide) (hts (.fieldLink RX2 29 "PuppetBar" "isCut" "[Z") (by decide +kernel)) (fun _ h9 => h9) rfl hinit rfl (by decide +kernel) rfl rfl (Nat.le_of_ble_eq_true rfl) dX2_init_57 (fun H locs hP hD hS => ?_)
  have hP : va_P D vwCl [(h0, .inr (1, [.ref q1, .ref q2, .ref q3, .ref q4, .ref q5, .ref q6, .ref q7, .long 0, .int 0, .int 0, .long 0, .null, .int 0, .null, .null])), (q1, .inl (cJ1, 8, .inr (.inl (fun _ => 0)))), (q2, .inl (cI2, 8, .inl (fun _ => 0))), (q3, .inl (cI2, 8, .inl (fun _ => 0))), (q4, .inl (cJ1, 8, .inr (.inl (fun _ => 0)))), (q5, .inl (cJ1, 8, .inr (.inl (fun _ => 0)))), (q6, .inl (cJ1, 8, .inr (.inl (fun _ => 0)))), (q7, .inl (cZ7, 8, .inl (fun _ => 0)))] H := hP
  have hD : va_D A [(h0, .inr (1, [.ref q1, .ref q2, .ref q3, .ref q4, .ref q5, .ref q6, .ref q7, .long 0, .int 0, .int 0, .long 0, .null, .int 0, .null, .null])), (q1, .inl (cJ1, 8, .inr (.inl (fun _ => 0)))), (q2, .inl (cI2, 8, .inl (fun _ => 0))), (q3, .inl (cI2, 8, .inl (fun _ => 0))), (q4, .inl (cJ1, 8, .inr (.inl (fun _ => 0)))), (q5, .inl (cJ1, 8, .inr (.inl (fun _ => 0)))), (q6, .inl (cJ1, 8, .inr (.inl (fun _ => 0)))), (q7, .inl (cZ7, 8, .inl (fun _ => 0)))] := hD
  refine lv_aload_n hx hb dX2_init_60 rfl (lv_at hl 0 rfl) ?_
  refine lv_lconst (v := 0) hx hb dX2_init_61 (by decide) ?_
  refine va_put (D := D) (ci := 1) (v := .long 0) (ty := .long) (C := RX2) (T := TX2) (N := 15) hx hb hts hinX2 tyX2 tyX2_ok nmX2 hown hK hP hD hS 0 rfl rfl 7 (by decide) (hts (.fieldLink RX2 33 "PuppetBar" "tilt" "J") (by decide +kernel)) (fun _ h9 => h9) rfl (by decide +kernel) rfl rfl (Nat.le_of_ble_eq_true rfl) dX2_init_62 (fun H locs hP hD hS => ?_)
  have hP : va_P D vwCl [(h0, .inr (1, [.ref q1, .ref q2, .ref q3, .ref q4, .ref q5, .ref q6, .ref q7, .long 0, .int 0, .int 0, .long 0, .null, .int 0, .null, .null])), (q1, .inl (cJ1, 8, .inr (.inl (fun _ => 0)))), (q2, .inl (cI2, 8, .inl (fun _ => 0))), (q3, .inl (cI2, 8, .inl (fun _ => 0))), (q4, .inl (cJ1, 8, .inr (.inl (fun _ => 0)))), (q5, .inl (cJ1, 8, .inr (.inl (fun _ => 0)))), (q6, .inl (cJ1, 8, .inr (.inl (fun _ => 0)))), (q7, .inl (cZ7, 8, .inl (fun _ => 0)))] H := hP
  have hD : va_D A [(h0, .inr (1, [.ref q1, .ref q2, .ref q3, .ref q4, .ref q5, .ref q6, .ref q7, .long 0, .int 0, .int 0, .long 0, .null, .int 0, .null, .null])), (q1, .inl (cJ1, 8, .inr (.inl (fun _ => 0)))), (q2, .inl (cI2, 8, .inl (fun _ => 0))), (q3, .inl (cI2, 8, .inl (fun _ => 0))), (q4, .inl (cJ1, 8, .inr (.inl (fun _ => 0)))), (q5, .inl (cJ1, 8, .inr (.inl (fun _ => 0)))), (q6, .inl (cJ1, 8, .inr (.inl (fun _ => 0)))), (q7, .inl (cZ7, 8, .inl (fun _ => 0)))] := hD
  refine lv_aload_n hx hb dX2_init_65 rfl (lv_at hl 0 rfl) ?_
  refine lv_iconst (v := 0) hx hb dX2_init_66 (by decide) ?_
  refine va_put (D := D) (ci := 1) (v := .int 0) (ty := .int) (C := RX2) (T := TX2) (N := 15) hx hb hts hinX2 tyX2 tyX2_ok nmX2 hown hK hP hD hS 0 rfl rfl 8 (by decide) (hts (.fieldLink RX2 37 "PuppetBar" "weight" "I") (by decide +kernel)) (fun _ h9 => h9) rfl (by decide +kernel) rfl rfl (Nat.le_of_ble_eq_true rfl) dX2_init_67 (fun H locs hP hD hS => ?_)
  have hP : va_P D vwCl [(h0, .inr (1, [.ref q1, .ref q2, .ref q3, .ref q4, .ref q5, .ref q6, .ref q7, .long 0, .int 0, .int 0, .long 0, .null, .int 0, .null, .null])), (q1, .inl (cJ1, 8, .inr (.inl (fun _ => 0)))), (q2, .inl (cI2, 8, .inl (fun _ => 0))), (q3, .inl (cI2, 8, .inl (fun _ => 0))), (q4, .inl (cJ1, 8, .inr (.inl (fun _ => 0)))), (q5, .inl (cJ1, 8, .inr (.inl (fun _ => 0)))), (q6, .inl (cJ1, 8, .inr (.inl (fun _ => 0)))), (q7, .inl (cZ7, 8, .inl (fun _ => 0)))] H := hP
  have hD : va_D A [(h0, .inr (1, [.ref q1, .ref q2, .ref q3, .ref q4, .ref q5, .ref q6, .ref q7, .long 0, .int 0, .int 0, .long 0, .null, .int 0, .null, .null])), (q1, .inl (cJ1, 8, .inr (.inl (fun _ => 0)))), (q2, .inl (cI2, 8, .inl (fun _ => 0))), (q3, .inl (cI2, 8, .inl (fun _ => 0))), (q4, .inl (cJ1, 8, .inr (.inl (fun _ => 0)))), (q5, .inl (cJ1, 8, .inr (.inl (fun _ => 0)))), (q6, .inl (cJ1, 8, .inr (.inl (fun _ => 0)))), (q7, .inl (cZ7, 8, .inl (fun _ => 0)))] := hD
  refine lv_aload_n hx hb dX2_init_70 rfl (lv_at hl 0 rfl) ?_
  refine lv_iconst (v := 0) hx hb dX2_init_71 (by decide) ?_
  refine va_put (D := D) (ci := 1) (v := .int 0) (ty := .int) (C := RX2) (T := TX2) (N := 15) hx hb hts hinX2 tyX2 tyX2_ok nmX2 hown hK hP hD hS 0 rfl rfl 9 (by decide) (hts (.fieldLink RX2 41 "PuppetBar" "count" "I") (by decide +kernel)) (fun _ h9 => h9) rfl (by decide +kernel) rfl rfl (Nat.le_of_ble_eq_true rfl) dX2_init_72 (fun H locs hP hD hS => ?_)
  have hP : va_P D vwCl [(h0, .inr (1, [.ref q1, .ref q2, .ref q3, .ref q4, .ref q5, .ref q6, .ref q7, .long 0, .int 0, .int 0, .long 0, .null, .int 0, .null, .null])), (q1, .inl (cJ1, 8, .inr (.inl (fun _ => 0)))), (q2, .inl (cI2, 8, .inl (fun _ => 0))), (q3, .inl (cI2, 8, .inl (fun _ => 0))), (q4, .inl (cJ1, 8, .inr (.inl (fun _ => 0)))), (q5, .inl (cJ1, 8, .inr (.inl (fun _ => 0)))), (q6, .inl (cJ1, 8, .inr (.inl (fun _ => 0)))), (q7, .inl (cZ7, 8, .inl (fun _ => 0)))] H := hP
  have hD : va_D A [(h0, .inr (1, [.ref q1, .ref q2, .ref q3, .ref q4, .ref q5, .ref q6, .ref q7, .long 0, .int 0, .int 0, .long 0, .null, .int 0, .null, .null])), (q1, .inl (cJ1, 8, .inr (.inl (fun _ => 0)))), (q2, .inl (cI2, 8, .inl (fun _ => 0))), (q3, .inl (cI2, 8, .inl (fun _ => 0))), (q4, .inl (cJ1, 8, .inr (.inl (fun _ => 0)))), (q5, .inl (cJ1, 8, .inr (.inl (fun _ => 0)))), (q6, .inl (cJ1, 8, .inr (.inl (fun _ => 0)))), (q7, .inl (cZ7, 8, .inl (fun _ => 0)))] := hD
  refine lv_aload_n hx hb dX2_init_75 rfl (lv_at hl 0 rfl) ?_
  refine lv_lconst (v := 0) hx hb dX2_init_76 (by decide) ?_
  refine va_put (D := D) (ci := 1) (v := .long 0) (ty := .long) (C := RX2) (T := TX2) (N := 15) hx hb hts hinX2 tyX2 tyX2_ok nmX2 hown hK hP hD hS 0 rfl rfl 10 (by decide) (hts (.fieldLink RX2 44 "PuppetBar" "turn" "J") (by decide +kernel)) (fun _ h9 => h9) rfl (by decide +kernel) rfl rfl (Nat.le_of_ble_eq_true rfl) dX2_init_77 (fun H locs hP hD hS => ?_)
  have hP : va_P D vwCl [(h0, .inr (1, [.ref q1, .ref q2, .ref q3, .ref q4, .ref q5, .ref q6, .ref q7, .long 0, .int 0, .int 0, .long 0, .null, .int 0, .null, .null])), (q1, .inl (cJ1, 8, .inr (.inl (fun _ => 0)))), (q2, .inl (cI2, 8, .inl (fun _ => 0))), (q3, .inl (cI2, 8, .inl (fun _ => 0))), (q4, .inl (cJ1, 8, .inr (.inl (fun _ => 0)))), (q5, .inl (cJ1, 8, .inr (.inl (fun _ => 0)))), (q6, .inl (cJ1, 8, .inr (.inl (fun _ => 0)))), (q7, .inl (cZ7, 8, .inl (fun _ => 0)))] H := hP
  have hD : va_D A [(h0, .inr (1, [.ref q1, .ref q2, .ref q3, .ref q4, .ref q5, .ref q6, .ref q7, .long 0, .int 0, .int 0, .long 0, .null, .int 0, .null, .null])), (q1, .inl (cJ1, 8, .inr (.inl (fun _ => 0)))), (q2, .inl (cI2, 8, .inl (fun _ => 0))), (q3, .inl (cI2, 8, .inl (fun _ => 0))), (q4, .inl (cJ1, 8, .inr (.inl (fun _ => 0)))), (q5, .inl (cJ1, 8, .inr (.inl (fun _ => 0)))), (q6, .inl (cJ1, 8, .inr (.inl (fun _ => 0)))), (q7, .inl (cZ7, 8, .inl (fun _ => 0)))] := hD
  refine lv_aload_n hx hb dX2_init_80 rfl (lv_at hl 0 rfl) ?_
  refine va_new (ci := 0) (fs := [.null, .null, .null, .int 0]) (C := RX0) (T := TX0) (N := 4) hx hb hts hinX0 tyX0 tyX0_ok hown (hts (.classLink RX2 47 RX0) (by decide +kernel)) (hts (.instantiable RX0 4) (by decide +kernel)) (hts (.initialized RX0) (by decide +kernel)) hK hP hD hS hA rfl (fun j hj => by rcases (show j = 0 ∨ j = 1 ∨ j = 2 ∨ j = 3 by omega) with rfl | rfl | rfl | rfl <;> rfl) (Nat.le_of_ble_eq_true rfl) (Nat.le_of_ble_eq_true rfl) dX2_init_81 (fun q8 H hP hD hS => ?_)
  have hP : va_P D vwCl [(h0, .inr (1, [.ref q1, .ref q2, .ref q3, .ref q4, .ref q5, .ref q6, .ref q7, .long 0, .int 0, .int 0, .long 0, .null, .int 0, .null, .null])), (q1, .inl (cJ1, 8, .inr (.inl (fun _ => 0)))), (q2, .inl (cI2, 8, .inl (fun _ => 0))), (q3, .inl (cI2, 8, .inl (fun _ => 0))), (q4, .inl (cJ1, 8, .inr (.inl (fun _ => 0)))), (q5, .inl (cJ1, 8, .inr (.inl (fun _ => 0)))), (q6, .inl (cJ1, 8, .inr (.inl (fun _ => 0)))), (q7, .inl (cZ7, 8, .inl (fun _ => 0))), (q8, .inr (0, [.null, .null, .null, .int 0]))] H := hP
  have hD : va_D A [(h0, .inr (1, [.ref q1, .ref q2, .ref q3, .ref q4, .ref q5, .ref q6, .ref q7, .long 0, .int 0, .int 0, .long 0, .null, .int 0, .null, .null])), (q1, .inl (cJ1, 8, .inr (.inl (fun _ => 0)))), (q2, .inl (cI2, 8, .inl (fun _ => 0))), (q3, .inl (cI2, 8, .inl (fun _ => 0))), (q4, .inl (cJ1, 8, .inr (.inl (fun _ => 0)))), (q5, .inl (cJ1, 8, .inr (.inl (fun _ => 0)))), (q6, .inl (cJ1, 8, .inr (.inl (fun _ => 0)))), (q7, .inl (cZ7, 8, .inl (fun _ => 0))), (q8, .inr (0, [.null, .null, .null, .int 0]))] := hD
  refine W.widen (k := 8) (n := 60) (Nat.le_of_ble_eq_true rfl) (Nat.le_of_ble_eq_true rfl) ?_
  refine lv_dup hx hb dX2_init_84 rfl ?_
  have hPc := hP.sub (ws' := [(q8, .inr (0, [.null, .null, .null, .int 0]))]) [8] rfl
  have hDc := hD.sub (ws' := [(q8, .inr (0, [.null, .null, .null, .int 0]))]) [8] (by decide) rfl
  have hKc := hK.sub (tys' := []) [] rfl
  have hFc := va_free (wc := [(q8, .inr (0, [.null, .null, .null, .int 0]))]) hD hS hA [8] rfl
  refine va_callv (va_runIN (As := []) (rest := [.ref q8, .ref h0]) ⟨hx, hb, hml, hown, hts⟩ (c_X0_init l D q8 H.size) ⟨va_cnB 0 hts gX2_init_X0_init_n49 rfl rfl rfl hnw (hts (.initialized RX0) (by decide +kernel)) (by decide +kernel) ⟨(Nat.le_of_ble_eq_true rfl), (Nat.le_of_ble_eq_true rfl)⟩, rfl, hts (.instanceMethod yX0_init) (by decide +kernel)⟩ ⟨fun a U g mk q => by obtain ⟨q0, q1, qP, qK, qD⟩ := q; exact ⟨q0, q1, qP, va_K.moved (u := U) (U := U.calling g mk a) (Vm.Alike.refl U.vm) qK, qD⟩, fun U hU hW => ⟨rfl, by rw [hU], by rw [hU]; exact hPc, va_K.moved hW.alike hKc, hDc.weaken (fun _ _ _ _ => trivial)⟩⟩ rfl rfl hl.1 rfl (lv_room (Nat.le_of_ble_eq_true rfl)) dX2_init_85 ⟨(Nat.le_of_ble_eq_true rfl), (Nat.le_of_ble_eq_true rfl)⟩) hS (fun q _ h => hFc q h) hFc (fun u t H1 locs ht hvm hw hB hz1 hk1 hS => ?_)
  obtain ⟨q9, q10, q11, cF⟩ := u
  obtain ⟨hP1, hK1, hD1⟩ := hB
  rw [ht] at hP1
  have hK1 := va_K.moved hvm.symm hK1
  obtain ⟨hP, hD⟩ := va_join (wr := [(h0, .inr (1, [.ref q1, .ref q2, .ref q3, .ref q4, .ref q5, .ref q6, .ref q7, .long 0, .int 0, .int 0, .long 0, .null, .int 0, .null, .null])), (q1, .inl (cJ1, 8, .inr (.inl (fun _ => 0)))), (q2, .inl (cI2, 8, .inl (fun _ => 0))), (q3, .inl (cI2, 8, .inl (fun _ => 0))), (q4, .inl (cJ1, 8, .inr (.inl (fun _ => 0)))), (q5, .inl (cJ1, 8, .inr (.inl (fun _ => 0)))), (q6, .inl (cJ1, 8, .inr (.inl (fun _ => 0)))), (q7, .inl (cZ7, 8, .inl (fun _ => 0)))]) (w1 := [(q8, .inr (0, [.ref q9, .ref q10, .ref q11, .int 0])), (q9, .inl (cF, 40, .inl (fun _ => 0))), (q10, .inl (cF, 40, .inl (fun _ => 0))), (q11, .inl (cF, 40, .inl (fun _ => 0)))]) hP hD [8] [0, 1, 2, 3, 4, 5, 6, 7] rfl rfl (by decide) (by decide) hk1 hFc hP1 hD1
  have hK := hK.app hK1
  have hK : va_K D vwCl ([(cJ1, .long), (cI2, .int), (cZ7, .boolean)] ++ [(cF, .int)]) st := hK
  have ecF : cI2 = cF := ka_I hK (i := 1) (j := 3) rfl rfl
  subst ecF
  have hK : va_K D vwCl [(cJ1, .long), (cI2, .int), (cZ7, .boolean)] st := hK.sub [0, 1, 2] rfl
  generalize H1 = H at hP hS ⊢
  have hP : va_P D vwCl [(h0, .inr (1, [.ref q1, .ref q2, .ref q3, .ref q4, .ref q5, .ref q6, .ref q7, .long 0, .int 0, .int 0, .long 0, .null, .int 0, .null, .null])), (q1, .inl (cJ1, 8, .inr (.inl (fun _ => 0)))), (q2, .inl (cI2, 8, .inl (fun _ => 0))), (q3, .inl (cI2, 8, .inl (fun _ => 0))), (q4, .inl (cJ1, 8, .inr (.inl (fun _ => 0)))), (q5, .inl (cJ1, 8, .inr (.inl (fun _ => 0)))), (q6, .inl (cJ1, 8, .inr (.inl (fun _ => 0)))), (q7, .inl (cZ7, 8, .inl (fun _ => 0))), (q8, .inr (0, [.ref q9, .ref q10, .ref q11, .int 0])), (q9, .inl (cI2, 40, .inl (fun _ => 0))), (q10, .inl (cI2, 40, .inl (fun _ => 0))), (q11, .inl (cI2, 40, .inl (fun _ => 0)))] H := hP
  have hD : va_D A [(h0, .inr (1, [.ref q1, .ref q2, .ref q3, .ref q4, .ref q5, .ref q6, .ref q7, .long 0, .int 0, .int 0, .long 0, .null, .int 0, .null, .null])), (q1, .inl (cJ1, 8, .inr (.inl (fun _ => 0)))), (q2, .inl (cI2, 8, .inl (fun _ => 0))), (q3, .inl (cI2, 8, .inl (fun _ => 0))), (q4, .inl (cJ1, 8, .inr (.inl (fun _ => 0)))), (q5, .inl (cJ1, 8, .inr (.inl (fun _ => 0)))), (q6, .inl (cJ1, 8, .inr (.inl (fun _ => 0)))), (q7, .inl (cZ7, 8, .inl (fun _ => 0))), (q8, .inr (0, [.ref q9, .ref q10, .ref q11, .int 0])), (q9, .inl (cI2, 40, .inl (fun _ => 0))), (q10, .inl (cI2, 40, .inl (fun _ => 0))), (q11, .inl (cI2, 40, .inl (fun _ => 0)))] := hD
  refine W.widen (k := 11) (n := 180) (Nat.le_of_ble_eq_true rfl) (Nat.le_of_ble_eq_true rfl) ?_
  refine va_putF (D := D) (ci := 1) (v := .ref q8) (ty := .object "PuppetBar$Figure") (C := RX2) (T := TX2) (N := 15) hx hb hts hinX2 tyX2 tyX2_ok nmX2 hown hK hP hD hS 0 rfl rfl 11 (by decide) (hts (.fieldLink RX2 50 "PuppetBar" "figure" "LPuppetBar$Figure;") (by decide +kernel)) (fun _ h9 => h9) rfl hinit rfl (by decide +kernel) rfl rfl (Nat.le_of_ble_eq_true rfl) dX2_init_88 (fun H locs hP hD hS => ?_)
  have hP : va_P D vwCl [(h0, .inr (1, [.ref q1, .ref q2, .ref q3, .ref q4, .ref q5, .ref q6, .ref q7, .long 0, .int 0, .int 0, .long 0, .ref q8, .int 0, .null, .null])), (q1, .inl (cJ1, 8, .inr (.inl (fun _ => 0)))), (q2, .inl (cI2, 8, .inl (fun _ => 0))), (q3, .inl (cI2, 8, .inl (fun _ => 0))), (q4, .inl (cJ1, 8, .inr (.inl (fun _ => 0)))), (q5, .inl (cJ1, 8, .inr (.inl (fun _ => 0)))), (q6, .inl (cJ1, 8, .inr (.inl (fun _ => 0)))), (q7, .inl (cZ7, 8, .inl (fun _ => 0))), (q8, .inr (0, [.ref q9, .ref q10, .ref q11, .int 0])), (q9, .inl (cI2, 40, .inl (fun _ => 0))), (q10, .inl (cI2, 40, .inl (fun _ => 0))), (q11, .inl (cI2, 40, .inl (fun _ => 0)))] H := hP
  have hD : va_D A [(h0, .inr (1, [.ref q1, .ref q2, .ref q3, .ref q4, .ref q5, .ref q6, .ref q7, .long 0, .int 0, .int 0, .long 0, .ref q8, .int 0, .null, .null])), (q1, .inl (cJ1, 8, .inr (.inl (fun _ => 0)))), (q2, .inl (cI2, 8, .inl (fun _ => 0))), (q3, .inl (cI2, 8, .inl (fun _ => 0))), (q4, .inl (cJ1, 8, .inr (.inl (fun _ => 0)))), (q5, .inl (cJ1, 8, .inr (.inl (fun _ => 0)))), (q6, .inl (cJ1, 8, .inr (.inl (fun _ => 0)))), (q7, .inl (cZ7, 8, .inl (fun _ => 0))), (q8, .inr (0, [.ref q9, .ref q10, .ref q11, .int 0])), (q9, .inl (cI2, 40, .inl (fun _ => 0))), (q10, .inl (cI2, 40, .inl (fun _ => 0))), (q11, .inl (cI2, 40, .inl (fun _ => 0)))] := hD
  refine lv_aload_n hx hb dX2_init_91 rfl (lv_at hl 0 rfl) ?_
  refine lv_iconst (v := 0) hx hb dX2_init_92 (by decide) ?_
  refine va_put (D := D) (ci := 1) (v := .int 0) (ty := .int) (C := RX2) (T := TX2) (N := 15) hx hb hts hinX2 tyX2 tyX2_ok nmX2 hown hK hP hD hS 0 rfl rfl 12 (by decide) (hts (.fieldLink RX2 54 "PuppetBar" "refusal" "I") (by decide +kernel)) (fun _ h9 => h9) rfl (by decide +kernel) rfl rfl (Nat.le_of_ble_eq_true rfl) dX2_init_93 (fun H locs hP hD hS => ?_)
  have hP : va_P D vwCl [(h0, .inr (1, [.ref q1, .ref q2, .ref q3, .ref q4, .ref q5, .ref q6, .ref q7, .long 0, .int 0, .int 0, .long 0, .ref q8, .int 0, .null, .null])), (q1, .inl (cJ1, 8, .inr (.inl (fun _ => 0)))), (q2, .inl (cI2, 8, .inl (fun _ => 0))), (q3, .inl (cI2, 8, .inl (fun _ => 0))), (q4, .inl (cJ1, 8, .inr (.inl (fun _ => 0)))), (q5, .inl (cJ1, 8, .inr (.inl (fun _ => 0)))), (q6, .inl (cJ1, 8, .inr (.inl (fun _ => 0)))), (q7, .inl (cZ7, 8, .inl (fun _ => 0))), (q8, .inr (0, [.ref q9, .ref q10, .ref q11, .int 0])), (q9, .inl (cI2, 40, .inl (fun _ => 0))), (q10, .inl (cI2, 40, .inl (fun _ => 0))), (q11, .inl (cI2, 40, .inl (fun _ => 0)))] H := hP
  have hD : va_D A [(h0, .inr (1, [.ref q1, .ref q2, .ref q3, .ref q4, .ref q5, .ref q6, .ref q7, .long 0, .int 0, .int 0, .long 0, .ref q8, .int 0, .null, .null])), (q1, .inl (cJ1, 8, .inr (.inl (fun _ => 0)))), (q2, .inl (cI2, 8, .inl (fun _ => 0))), (q3, .inl (cI2, 8, .inl (fun _ => 0))), (q4, .inl (cJ1, 8, .inr (.inl (fun _ => 0)))), (q5, .inl (cJ1, 8, .inr (.inl (fun _ => 0)))), (q6, .inl (cJ1, 8, .inr (.inl (fun _ => 0)))), (q7, .inl (cZ7, 8, .inl (fun _ => 0))), (q8, .inr (0, [.ref q9, .ref q10, .ref q11, .int 0])), (q9, .inl (cI2, 40, .inl (fun _ => 0))), (q10, .inl (cI2, 40, .inl (fun _ => 0))), (q11, .inl (cI2, 40, .inl (fun _ => 0)))] := hD
  refine lv_aload_n hx hb dX2_init_96 rfl (lv_at hl 0 rfl) ?_
  refine lv_iconst (v := 5) hx hb dX2_init_97 (by decide) ?_
  refine va_newa (atype := .int) (n := 5) (a0 := (5, .inl (fun _ => 0))) (N' := 5) (ty := .int) hx hb (hts (.arrayClass .int) (by decide +kernel)) rfl hK hP hD hS hA (fun _ => rfl) (by decide) (by decide) (by decide) (Nat.le_of_ble_eq_true rfl) (Nat.le_of_ble_eq_true rfl) dX2_init_98 (fun q12 cI12 H hK hP hD hS => ?_)
  have ec12 : cI2 = cI12 := ka_I hK (i := 1) (j := 3) rfl rfl
  subst ec12
  have hK : va_K D vwCl [(cJ1, .long), (cI2, .int), (cZ7, .boolean)] st := hK.sub [0, 1, 2] rfl
  have hP : va_P D vwCl [(h0, .inr (1, [.ref q1, .ref q2, .ref q3, .ref q4, .ref q5, .ref q6, .ref q7, .long 0, .int 0, .int 0, .long 0, .ref q8, .int 0, .null, .null])), (q1, .inl (cJ1, 8, .inr (.inl (fun _ => 0)))), (q2, .inl (cI2, 8, .inl (fun _ => 0))), (q3, .inl (cI2, 8, .inl (fun _ => 0))), (q4, .inl (cJ1, 8, .inr (.inl (fun _ => 0)))), (q5, .inl (cJ1, 8, .inr (.inl (fun _ => 0)))), (q6, .inl (cJ1, 8, .inr (.inl (fun _ => 0)))), (q7, .inl (cZ7, 8, .inl (fun _ => 0))), (q8, .inr (0, [.ref q9, .ref q10, .ref q11, .int 0])), (q9, .inl (cI2, 40, .inl (fun _ => 0))), (q10, .inl (cI2, 40, .inl (fun _ => 0))), (q11, .inl (cI2, 40, .inl (fun _ => 0))), (q12, .inl (cI2, 5, .inl (fun _ => 0)))] H := hP
  have hD : va_D A [(h0, .inr (1, [.ref q1, .ref q2, .ref q3, .ref q4, .ref q5, .ref q6, .ref q7, .long 0, .int 0, .int 0, .long 0, .ref q8, .int 0, .null, .null])), (q1, .inl (cJ1, 8, .inr (.inl (fun _ => 0)))), (q2, .inl (cI2, 8, .inl (fun _ => 0))), (q3, .inl (cI2, 8, .inl (fun _ => 0))), (q4, .inl (cJ1, 8, .inr (.inl (fun _ => 0)))), (q5, .inl (cJ1, 8, .inr (.inl (fun _ => 0)))), (q6, .inl (cJ1, 8, .inr (.inl (fun _ => 0)))), (q7, .inl (cZ7, 8, .inl (fun _ => 0))), (q8, .inr (0, [.ref q9, .ref q10, .ref q11, .int 0])), (q9, .inl (cI2, 40, .inl (fun _ => 0))), (q10, .inl (cI2, 40, .inl (fun _ => 0))), (q11, .inl (cI2, 40, .inl (fun _ => 0))), (q12, .inl (cI2, 5, .inl (fun _ => 0)))] := hD
  refine W.widen (k := 12) (n := 185) (Nat.le_of_ble_eq_true rfl) (Nat.le_of_ble_eq_true rfl) ?_
  refine va_putF (D := D) (ci := 1) (v := .ref q12) (ty := .array .int) (C := RX2) (T := TX2) (N := 15) hx hb hts hinX2 tyX2 tyX2_ok nmX2 hown hK hP hD hS 0 rfl rfl 13 (by decide) (hts (.fieldLink RX2 57 "PuppetBar" "changes" "[I") (by decide +kernel)) (fun _ h9 => h9) rfl hinit rfl (by decide +kernel) rfl rfl (Nat.le_of_ble_eq_true rfl) dX2_init_100 (fun H locs hP hD hS => ?_)
  have hP : va_P D vwCl [(h0, .inr (1, [.ref q1, .ref q2, .ref q3, .ref q4, .ref q5, .ref q6, .ref q7, .long 0, .int 0, .int 0, .long 0, .ref q8, .int 0, .ref q12, .null])), (q1, .inl (cJ1, 8, .inr (.inl (fun _ => 0)))), (q2, .inl (cI2, 8, .inl (fun _ => 0))), (q3, .inl (cI2, 8, .inl (fun _ => 0))), (q4, .inl (cJ1, 8, .inr (.inl (fun _ => 0)))), (q5, .inl (cJ1, 8, .inr (.inl (fun _ => 0)))), (q6, .inl (cJ1, 8, .inr (.inl (fun _ => 0)))), (q7, .inl (cZ7, 8, .inl (fun _ => 0))), (q8, .inr (0, [.ref q9, .ref q10, .ref q11, .int 0])), (q9, .inl (cI2, 40, .inl (fun _ => 0))), (q10, .inl (cI2, 40, .inl (fun _ => 0))), (q11, .inl (cI2, 40, .inl (fun _ => 0))), (q12, .inl (cI2, 5, .inl (fun _ => 0)))] H := hP
  have hD : va_D A [(h0, .inr (1, [.ref q1, .ref q2, .ref q3, .ref q4, .ref q5, .ref q6, .ref q7, .long 0, .int 0, .int 0, .long 0, .ref q8, .int 0, .ref q12, .null])), (q1, .inl (cJ1, 8, .inr (.inl (fun _ => 0)))), (q2, .inl (cI2, 8, .inl (fun _ => 0))), (q3, .inl (cI2, 8, .inl (fun _ => 0))), (q4, .inl (cJ1, 8, .inr (.inl (fun _ => 0)))), (q5, .inl (cJ1, 8, .inr (.inl (fun _ => 0)))), (q6, .inl (cJ1, 8, .inr (.inl (fun _ => 0)))), (q7, .inl (cZ7, 8, .inl (fun _ => 0))), (q8, .inr (0, [.ref q9, .ref q10, .ref q11, .int 0])), (q9, .inl (cI2, 40, .inl (fun _ => 0))), (q10, .inl (cI2, 40, .inl (fun _ => 0))), (q11, .inl (cI2, 40, .inl (fun _ => 0))), (q12, .inl (cI2, 5, .inl (fun _ => 0)))] := hD
  refine lv_aload_n hx hb dX2_init_103 rfl (lv_at hl 0 rfl) ?_
  refine lv_iconst (v := 5) hx hb dX2_init_104 (by decide) ?_
  refine va_newa (atype := .int) (n := 5) (a0 := (5, .inl (fun _ => 0))) (N' := 5) (ty := .int) hx hb (hts (.arrayClass .int) (by decide +kernel)) rfl hK hP hD hS hA (fun _ => rfl) (by decide) (by decide) (by decide) (Nat.le_of_ble_eq_true rfl) (Nat.le_of_ble_eq_true rfl) dX2_init_105 (fun q13 cI13 H hK hP hD hS => ?_)
  have ec13 : cI2 = cI13 := ka_I hK (i := 1) (j := 3) rfl rfl
  subst ec13
  have hK : va_K D vwCl [(cJ1, .long), (cI2, .int), (cZ7, .boolean)] st := hK.sub [0, 1, 2] rfl
  have hP : va_P D vwCl [(h0, .inr (1, [.ref q1, .ref q2, .ref q3, .ref q4, .ref q5, .ref q6, .ref q7, .long 0, .int 0, .int 0, .long 0, .ref q8, .int 0, .ref q12, .null])), (q1, .inl (cJ1, 8, .inr (.inl (fun _ => 0)))), (q2, .inl (cI2, 8, .inl (fun _ => 0))), (q3, .inl (cI2, 8, .inl (fun _ => 0))), (q4, .inl (cJ1, 8, .inr (.inl (fun _ => 0)))), (q5, .inl (cJ1, 8, .inr (.inl (fun _ => 0)))), (q6, .inl (cJ1, 8, .inr (.inl (fun _ => 0)))), (q7, .inl (cZ7, 8, .inl (fun _ => 0))), (q8, .inr (0, [.ref q9, .ref q10, .ref q11, .int 0])), (q9, .inl (cI2, 40, .inl (fun _ => 0))), (q10, .inl (cI2, 40, .inl (fun _ => 0))), (q11, .inl (cI2, 40, .inl (fun _ => 0))), (q12, .inl (cI2, 5, .inl (fun _ => 0))), (q13, .inl (cI2, 5, .inl (fun _ => 0)))] H := hP
  have hD : va_D A [(h0, .inr (1, [.ref q1, .ref q2, .ref q3, .ref q4, .ref q5, .ref q6, .ref q7, .long 0, .int 0, .int 0, .long 0, .ref q8, .int 0, .ref q12, .null])), (q1, .inl (cJ1, 8, .inr (.inl (fun _ => 0)))), (q2, .inl (cI2, 8, .inl (fun _ => 0))), (q3, .inl (cI2, 8, .inl (fun _ => 0))), (q4, .inl (cJ1, 8, .inr (.inl (fun _ => 0)))), (q5, .inl (cJ1, 8, .inr (.inl (fun _ => 0)))), (q6, .inl (cJ1, 8, .inr (.inl (fun _ => 0)))), (q7, .inl (cZ7, 8, .inl (fun _ => 0))), (q8, .inr (0, [.ref q9, .ref q10, .ref q11, .int 0])), (q9, .inl (cI2, 40, .inl (fun _ => 0))), (q10, .inl (cI2, 40, .inl (fun _ => 0))), (q11, .inl (cI2, 40, .inl (fun _ => 0))), (q12, .inl (cI2, 5, .inl (fun _ => 0))), (q13, .inl (cI2, 5, .inl (fun _ => 0)))] := hD
  refine W.widen (k := 13) (n := 190) (Nat.le_of_ble_eq_true rfl) (Nat.le_of_ble_eq_true rfl) ?_
  refine va_putF (D := D) (ci := 1) (v := .ref q13) (ty := .array .int) (C := RX2) (T := TX2) (N := 15) hx hb hts hinX2 tyX2 tyX2_ok nmX2 hown hK hP hD hS 0 rfl rfl 14 (by decide) (hts (.fieldLink RX2 60 "PuppetBar" "latestDance" "[I") (by decide +kernel)) (fun _ h9 => h9) rfl hinit rfl (by decide +kernel) rfl rfl (Nat.le_of_ble_eq_true rfl) dX2_init_107 (fun H locs hP hD hS => ?_)
  have hP : va_P D vwCl [(h0, .inr (1, [.ref q1, .ref q2, .ref q3, .ref q4, .ref q5, .ref q6, .ref q7, .long 0, .int 0, .int 0, .long 0, .ref q8, .int 0, .ref q12, .ref q13])), (q1, .inl (cJ1, 8, .inr (.inl (fun _ => 0)))), (q2, .inl (cI2, 8, .inl (fun _ => 0))), (q3, .inl (cI2, 8, .inl (fun _ => 0))), (q4, .inl (cJ1, 8, .inr (.inl (fun _ => 0)))), (q5, .inl (cJ1, 8, .inr (.inl (fun _ => 0)))), (q6, .inl (cJ1, 8, .inr (.inl (fun _ => 0)))), (q7, .inl (cZ7, 8, .inl (fun _ => 0))), (q8, .inr (0, [.ref q9, .ref q10, .ref q11, .int 0])), (q9, .inl (cI2, 40, .inl (fun _ => 0))), (q10, .inl (cI2, 40, .inl (fun _ => 0))), (q11, .inl (cI2, 40, .inl (fun _ => 0))), (q12, .inl (cI2, 5, .inl (fun _ => 0))), (q13, .inl (cI2, 5, .inl (fun _ => 0)))] H := hP
  have hD : va_D A [(h0, .inr (1, [.ref q1, .ref q2, .ref q3, .ref q4, .ref q5, .ref q6, .ref q7, .long 0, .int 0, .int 0, .long 0, .ref q8, .int 0, .ref q12, .ref q13])), (q1, .inl (cJ1, 8, .inr (.inl (fun _ => 0)))), (q2, .inl (cI2, 8, .inl (fun _ => 0))), (q3, .inl (cI2, 8, .inl (fun _ => 0))), (q4, .inl (cJ1, 8, .inr (.inl (fun _ => 0)))), (q5, .inl (cJ1, 8, .inr (.inl (fun _ => 0)))), (q6, .inl (cJ1, 8, .inr (.inl (fun _ => 0)))), (q7, .inl (cZ7, 8, .inl (fun _ => 0))), (q8, .inr (0, [.ref q9, .ref q10, .ref q11, .int 0])), (q9, .inl (cI2, 40, .inl (fun _ => 0))), (q10, .inl (cI2, 40, .inl (fun _ => 0))), (q11, .inl (cI2, 40, .inl (fun _ => 0))), (q12, .inl (cI2, 5, .inl (fun _ => 0))), (q13, .inl (cI2, 5, .inl (fun _ => 0)))] := hD
  refine lv_iconst (v := 0) hx hb dX2_init_110 (by decide) ?_
  refine lv_istore_n (lv' := [(1, .int 0), (0, .ref h0)]) hx hb dX2_init_111 rfl hl (by decide) rfl (fun ls hl => ?_)
  obtain ⟨a, e0, e1, e2, e3, e4, e5, e6, e7, e8, e9, e10, e11, e12, e13⟩ : ∃ a : Nat → Nat, a 0 = h0 ∧ a 1 = q1 ∧ a 2 = q2 ∧ a 3 = q3 ∧ a 4 = q4 ∧ a 5 = q5 ∧ a 6 = q6 ∧ a 7 = q7 ∧ a 8 = q8 ∧ a 9 = q12 ∧ a 10 = q13 ∧ a 11 = q9 ∧ a 12 = q10 ∧ a 13 = q11 := ⟨fun k => match k with | 0 => h0 | 1 => q1 | 2 => q2 | 3 => q3 | 4 => q4 | 5 => q5 | 6 => q6 | 7 => q7 | 8 => q8 | 9 => q12 | 10 => q13 | 11 => q9 | 12 => q10 | _ => q11, rfl, rfl, rfl, rfl, rfl, rfl, rfl, rfl, rfl, rfl, rfl, rfl, rfl, rfl⟩
  subst e0
  subst e1
  subst e2
  subst e3
  subst e4
  subst e5
  subst e6
  subst e7
  subst e8
  subst e9
  subst e10
  subst e11
  subst e12
  subst e13
  have hP : va_P D vwCl (wB (cI2, cJ1, cZ7) a sBz) H := hP.sub [0, 1, 2, 3, 4, 5, 6, 7, 8, 12, 13, 9, 10, 11] rfl
  have hD : va_D A (wB (cI2, cJ1, cZ7) a sBz) := hD.sub [0, 1, 2, 3, 4, 5, 6, 7, 8, 12, 13, 9, 10, 11] (by decide) rfl
  have hK : va_K D vwCl (tyK (cI2, cJ1, cZ7)) st := hK.sub [1, 0, 2] rfl
  refine lv_iload_n hx hb dX2_init_112 rfl (lv_at hl 0 rfl) ?_
  refine lv_bipush (v := 8) hx hb dX2_init_113 (by decide) ?_
  refine lv_icmp_ge (tgt := 129) hx hb dX2_init_115 (by decide) (fun cx => absurd (show (8 : Int32) ≤ (0 : Int32) from cx) (by decide)) (fun _ => ?_)
  refine lv_aload_n hx hb dX2_init_118 rfl (lv_at hl 1 rfl) ?_
  refine lv_iload_n hx hb dX2_init_119 rfl (lv_at hl 0 rfl) ?_
  refine cl_V (c_X2_stringAnew l D (cI2, cJ1, cZ7) a _ _ (show vp_in (0 : Int32) 8 by unfold vp_in; decide)) ⟨hx, hb, hml, hown, hts⟩ (cwV 1 hts gX2_init_X2_stringAnew rfl rfl rfl (by decide +kernel) ⟨(Nat.le_of_ble_eq_true rfl), (Nat.le_of_ble_eq_true rfl)⟩) hK hP hD hS hA rfl rfl rfl rfl hl.1 rfl (Nat.le_of_ble_eq_true rfl) (Nat.le_of_ble_eq_true rfl) (Nat.le_of_ble_eq_true rfl) dX2_init_120 (fun H locs hP hD hS => ?_)
  refine lv_iinc (v := 1) (lv' := [(1, .int 1), (0, .ref (a 0))]) hx hb dX2_init_123 hl (k := 0) rfl (by decide) (by decide) rfl (fun ls hl => ?_)
  refine lv_goto (tgt := 112) hx hb dX2_init_126 (by decide) ?_
  refine lv_iload_n hx hb dX2_init_112 rfl (lv_at hl 0 rfl) ?_
  refine lv_bipush (v := 8) hx hb dX2_init_113 (by decide) ?_
  refine lv_icmp_ge (tgt := 129) hx hb dX2_init_115 (by decide) (fun cx => absurd (show (8 : Int32) ≤ (1 : Int32) from cx) (by decide)) (fun _ => ?_)
  refine lv_aload_n hx hb dX2_init_118 rfl (lv_at hl 1 rfl) ?_
  refine lv_iload_n hx hb dX2_init_119 rfl (lv_at hl 0 rfl) ?_
  refine cl_V (c_X2_stringAnew l D (cI2, cJ1, cZ7) a _ _ (show vp_in (1 : Int32) 8 by unfold vp_in; decide)) ⟨hx, hb, hml, hown, hts⟩ (cwV 1 hts gX2_init_X2_stringAnew rfl rfl rfl (by decide +kernel) ⟨(Nat.le_of_ble_eq_true rfl), (Nat.le_of_ble_eq_true rfl)⟩) hK hP hD hS hA rfl rfl rfl rfl hl.1 rfl (Nat.le_of_ble_eq_true rfl) (Nat.le_of_ble_eq_true rfl) (Nat.le_of_ble_eq_true rfl) dX2_init_120 (fun H locs hP hD hS => ?_)
  refine lv_iinc (v := 2) (lv' := [(1, .int 2), (0, .ref (a 0))]) hx hb dX2_init_123 hl (k := 0) rfl (by decide) (by decide) rfl (fun ls hl => ?_)
  refine lv_goto (tgt := 112) hx hb dX2_init_126 (by decide) ?_
  refine lv_iload_n hx hb dX2_init_112 rfl (lv_at hl 0 rfl) ?_
  refine lv_bipush (v := 8) hx hb dX2_init_113 (by decide) ?_
  refine lv_icmp_ge (tgt := 129) hx hb dX2_init_115 (by decide) (fun cx => absurd (show (8 : Int32) ≤ (2 : Int32) from cx) (by decide)) (fun _ => ?_)
  refine lv_aload_n hx hb dX2_init_118 rfl (lv_at hl 1 rfl) ?_
  refine lv_iload_n hx hb dX2_init_119 rfl (lv_at hl 0 rfl) ?_
  refine cl_V (c_X2_stringAnew l D (cI2, cJ1, cZ7) a _ _ (show vp_in (2 : Int32) 8 by unfold vp_in; decide)) ⟨hx, hb, hml, hown, hts⟩ (cwV 1 hts gX2_init_X2_stringAnew rfl rfl rfl (by decide +kernel) ⟨(Nat.le_of_ble_eq_true rfl), (Nat.le_of_ble_eq_true rfl)⟩) hK hP hD hS hA rfl rfl rfl rfl hl.1 rfl (Nat.le_of_ble_eq_true rfl) (Nat.le_of_ble_eq_true rfl) (Nat.le_of_ble_eq_true rfl) dX2_init_120 (fun H locs hP hD hS => ?_)
  refine lv_iinc (v := 3) (lv' := [(1, .int 3), (0, .ref (a 0))]) hx hb dX2_init_123 hl (k := 0) rfl (by decide) (by decide) rfl (fun ls hl => ?_)
  refine lv_goto (tgt := 112) hx hb dX2_init_126 (by decide) ?_
  refine lv_iload_n hx hb dX2_init_112 rfl (lv_at hl 0 rfl) ?_
  refine lv_bipush (v := 8) hx hb dX2_init_113 (by decide) ?_
  refine lv_icmp_ge (tgt := 129) hx hb dX2_init_115 (by decide) (fun cx => absurd (show (8 : Int32) ≤ (3 : Int32) from cx) (by decide)) (fun _ => ?_)
  refine lv_aload_n hx hb dX2_init_118 rfl (lv_at hl 1 rfl) ?_
  refine lv_iload_n hx hb dX2_init_119 rfl (lv_at hl 0 rfl) ?_
  refine cl_V (c_X2_stringAnew l D (cI2, cJ1, cZ7) a _ _ (show vp_in (3 : Int32) 8 by unfold vp_in; decide)) ⟨hx, hb, hml, hown, hts⟩ (cwV 1 hts gX2_init_X2_stringAnew rfl rfl rfl (by decide +kernel) ⟨(Nat.le_of_ble_eq_true rfl), (Nat.le_of_ble_eq_true rfl)⟩) hK hP hD hS hA rfl rfl rfl rfl hl.1 rfl (Nat.le_of_ble_eq_true rfl) (Nat.le_of_ble_eq_true rfl) (Nat.le_of_ble_eq_true rfl) dX2_init_120 (fun H locs hP hD hS => ?_)
  refine lv_iinc (v := 4) (lv' := [(1, .int 4), (0, .ref (a 0))]) hx hb dX2_init_123 hl (k := 0) rfl (by decide) (by decide) rfl (fun ls hl => ?_)
  refine lv_goto (tgt := 112) hx hb dX2_init_126 (by decide) ?_
  refine lv_iload_n hx hb dX2_init_112 rfl (lv_at hl 0 rfl) ?_
  refine lv_bipush (v := 8) hx hb dX2_init_113 (by decide) ?_
  refine lv_icmp_ge (tgt := 129) hx hb dX2_init_115 (by decide) (fun cx => absurd (show (8 : Int32) ≤ (4 : Int32) from cx) (by decide)) (fun _ => ?_)
  refine lv_aload_n hx hb dX2_init_118 rfl (lv_at hl 1 rfl) ?_
  refine lv_iload_n hx hb dX2_init_119 rfl (lv_at hl 0 rfl) ?_
  refine cl_V (c_X2_stringAnew l D (cI2, cJ1, cZ7) a _ _ (show vp_in (4 : Int32) 8 by unfold vp_in; decide)) ⟨hx, hb, hml, hown, hts⟩ (cwV 1 hts gX2_init_X2_stringAnew rfl rfl rfl (by decide +kernel) ⟨(Nat.le_of_ble_eq_true rfl), (Nat.le_of_ble_eq_true rfl)⟩) hK hP hD hS hA rfl rfl rfl rfl hl.1 rfl (Nat.le_of_ble_eq_true rfl) (Nat.le_of_ble_eq_true rfl) (Nat.le_of_ble_eq_true rfl) dX2_init_120 (fun H locs hP hD hS => ?_)
  refine lv_iinc (v := 5) (lv' := [(1, .int 5), (0, .ref (a 0))]) hx hb dX2_init_123 hl (k := 0) rfl (by decide) (by decide) rfl (fun ls hl => ?_)
  refine lv_goto (tgt := 112) hx hb dX2_init_126 (by decide) ?_
  refine lv_iload_n hx hb dX2_init_112 rfl (lv_at hl 0 rfl) ?_
  refine lv_bipush (v := 8) hx hb dX2_init_113 (by decide) ?_
  refine lv_icmp_ge (tgt := 129) hx hb dX2_init_115 (by decide) (fun cx => absurd (show (8 : Int32) ≤ (5 : Int32) from cx) (by decide)) (fun _ => ?_)
  refine lv_aload_n hx hb dX2_init_118 rfl (lv_at hl 1 rfl) ?_
  refine lv_iload_n hx hb dX2_init_119 rfl (lv_at hl 0 rfl) ?_
  refine cl_V (c_X2_stringAnew l D (cI2, cJ1, cZ7) a _ _ (show vp_in (5 : Int32) 8 by unfold vp_in; decide)) ⟨hx, hb, hml, hown, hts⟩ (cwV 1 hts gX2_init_X2_stringAnew rfl rfl rfl (by decide +kernel) ⟨(Nat.le_of_ble_eq_true rfl), (Nat.le_of_ble_eq_true rfl)⟩) hK hP hD hS hA rfl rfl rfl rfl hl.1 rfl (Nat.le_of_ble_eq_true rfl) (Nat.le_of_ble_eq_true rfl) (Nat.le_of_ble_eq_true rfl) dX2_init_120 (fun H locs hP hD hS => ?_)
  refine lv_iinc (v := 6) (lv' := [(1, .int 6), (0, .ref (a 0))]) hx hb dX2_init_123 hl (k := 0) rfl (by decide) (by decide) rfl (fun ls hl => ?_)
  refine lv_goto (tgt := 112) hx hb dX2_init_126 (by decide) ?_
  refine lv_iload_n hx hb dX2_init_112 rfl (lv_at hl 0 rfl) ?_
  refine lv_bipush (v := 8) hx hb dX2_init_113 (by decide) ?_
  refine lv_icmp_ge (tgt := 129) hx hb dX2_init_115 (by decide) (fun cx => absurd (show (8 : Int32) ≤ (6 : Int32) from cx) (by decide)) (fun _ => ?_)
  refine lv_aload_n hx hb dX2_init_118 rfl (lv_at hl 1 rfl) ?_
  refine lv_iload_n hx hb dX2_init_119 rfl (lv_at hl 0 rfl) ?_
  refine cl_V (c_X2_stringAnew l D (cI2, cJ1, cZ7) a _ _ (show vp_in (6 : Int32) 8 by unfold vp_in; decide)) ⟨hx, hb, hml, hown, hts⟩ (cwV 1 hts gX2_init_X2_stringAnew rfl rfl rfl (by decide +kernel) ⟨(Nat.le_of_ble_eq_true rfl), (Nat.le_of_ble_eq_true rfl)⟩) hK hP hD hS hA rfl rfl rfl rfl hl.1 rfl (Nat.le_of_ble_eq_true rfl) (Nat.le_of_ble_eq_true rfl) (Nat.le_of_ble_eq_true rfl) dX2_init_120 (fun H locs hP hD hS => ?_)
  refine lv_iinc (v := 7) (lv' := [(1, .int 7), (0, .ref (a 0))]) hx hb dX2_init_123 hl (k := 0) rfl (by decide) (by decide) rfl (fun ls hl => ?_)
  refine lv_goto (tgt := 112) hx hb dX2_init_126 (by decide) ?_
  refine lv_iload_n hx hb dX2_init_112 rfl (lv_at hl 0 rfl) ?_
  refine lv_bipush (v := 8) hx hb dX2_init_113 (by decide) ?_
  refine lv_icmp_ge (tgt := 129) hx hb dX2_init_115 (by decide) (fun cx => absurd (show (8 : Int32) ≤ (7 : Int32) from cx) (by decide)) (fun _ => ?_)
  refine lv_aload_n hx hb dX2_init_118 rfl (lv_at hl 1 rfl) ?_
  refine lv_iload_n hx hb dX2_init_119 rfl (lv_at hl 0 rfl) ?_
  refine cl_V (c_X2_stringAnew l D (cI2, cJ1, cZ7) a _ _ (show vp_in (7 : Int32) 8 by unfold vp_in; decide)) ⟨hx, hb, hml, hown, hts⟩ (cwV 1 hts gX2_init_X2_stringAnew rfl rfl rfl (by decide +kernel) ⟨(Nat.le_of_ble_eq_true rfl), (Nat.le_of_ble_eq_true rfl)⟩) hK hP hD hS hA rfl rfl rfl rfl hl.1 rfl (Nat.le_of_ble_eq_true rfl) (Nat.le_of_ble_eq_true rfl) (Nat.le_of_ble_eq_true rfl) dX2_init_120 (fun H locs hP hD hS => ?_)
  refine lv_iinc (v := 8) (lv' := [(1, .int 8), (0, .ref (a 0))]) hx hb dX2_init_123 hl (k := 0) rfl (by decide) (by decide) rfl (fun ls hl => ?_)
  refine lv_goto (tgt := 112) hx hb dX2_init_126 (by decide) ?_
  refine lv_iload_n hx hb dX2_init_112 rfl (lv_at hl 0 rfl) ?_
  refine lv_bipush (v := 8) hx hb dX2_init_113 (by decide) ?_
  refine lv_icmp_ge (tgt := 129) hx hb dX2_init_115 (by decide) (fun _ => ?_) (fun cx => absurd (show (8 : Int32) ≤ (8 : Int32) by decide) cx)
  exact W.vret hx hb hr (fun t ht hW => ⟨⟨((cI2, cJ1, cZ7), a), rfl, rfl, by rw [ht]; exact hP, va_K.moved hW.alike hK, hD⟩, hS.F ht⟩) hS.2.2 dX2_init_129 hlk
