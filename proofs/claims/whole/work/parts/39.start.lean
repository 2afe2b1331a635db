def R0 (s : SB) (m : SM) : Prop := s.1 = m.1 ∧ gB_Z s = gM_Z m ∧ s.2.2 = sBz.2.2 ∧ m.2.2 = sMz.2.2 ∧ numC s.1 ∧ ZOK (gB_Z s)
theorem r0_step {s : SB} {m : SM} (h : R0 s m) (t : Int32) : R0 (f_X2_stringAnew s t) (f_X3_begin m t) := by
  obtain ⟨h1, h2, h3, h4, h6, h7⟩ := h
  have e1 : (f_X3_endless 52 ||| f_X3_sign 52) = -4503599627370496 := by decide
  have e2 : f_X3_endless 52 = 9218868437227405312 := by decide
  refine ⟨?_, ?_, h3, h4, ?_, nz_up h7 rfl⟩
  · unfold f_X2_stringAnew f_X3_begin
    rw [e1, e2]
    show (((vp_updL s.1.1.1 _ _, upd s.1.1.2.1 _ _, upd s.1.1.2.2.1 _ _, vp_updL s.1.1.2.2.2.1 _ _, vp_updL s.1.1.2.2.2.2.1 _ _, vp_updL s.1.1.2.2.2.2.2 _ _), s.1.2) : Cor) = _
    rw [h1]
  · show upd (gB_Z s) _ _ = upd (gM_Z m) _ _
    rw [h2]
  · exact ⟨okU h6.1 (show okL 0 by unfold okL; decide), okU h6.2.1 (show okL (-4503599627370496) by unfold okL; decide), okU h6.2.2.1 (show okL 9218868437227405312 by unfold okL; decide), h6.2.2.2⟩
theorem r0_z : R0 sBz sMz := by
  have h0 : okL 0 := by unfold okL; decide
  exact ⟨rfl, rfl, rfl, rfl, ⟨fun _ => h0, fun _ => h0, fun _ => h0, h0⟩, fun _ => show narrow .boolean (.int (0 : Int32)) = .int 0 by first | rfl | decide | simp [narrow]⟩
theorem rr_0 : RR sB0 sM0 := by
  have h : R0 sB0 sM0 := r0_step (r0_step (r0_step (r0_step (r0_step (r0_step (r0_step (r0_step r0_z 0) 1) 2) 3) 4) 5) 6) 7
  generalize sB0 = s at h ⊢
  generalize sM0 = m at h ⊢
  obtain ⟨h1, h2, h3, h4, h6, h7⟩ := h
  obtain ⟨sc, sz, sr⟩ := s
  obtain ⟨mc, mz, mr⟩ := m
  have e1 : sr = sBz.2.2 := h3
  have e2 : mr = sMz.2.2 := h4
  subst e1
  subst e2
  refine ⟨h1, h2, rfl, ⟨0, by decide, rfl, rfl, fun j hj => absurd hj (by omega)⟩, ⟨rfl, fun i _ => rfl⟩, h6, h7⟩
theorem fs_X2 : ∀ j, j < 15 → defaultValue (tyX2 j) = vp_V [.null, .null, .null, .null, .null, .null, .null, .long 0, .int 0, .int 0, .long 0, .null, .int 0, .null, .null] j := fun j hj => match j, hj with
    | 0, _ => rfl
    | 1, _ => rfl
    | 2, _ => rfl
    | 3, _ => rfl
    | 4, _ => rfl
    | 5, _ => rfl
    | 6, _ => rfl
    | 7, _ => rfl
    | 8, _ => rfl
    | 9, _ => rfl
    | 10, _ => rfl
    | 11, _ => rfl
    | 12, _ => rfl
    | 13, _ => rfl
    | 14, _ => rfl
    | j + 15, hj => absurd hj (by omega)
theorem fs_X3 : ∀ j, j < 21 → defaultValue (tyX3 j) = vp_V [.null, .null, .null, .null, .null, .null, .null, .long 0, .int 0, .int 0, .long 0, .int 0, .int 0, .null, .int 0, .null, .null, .null, .null, .null, .null] j := fun j hj => match j, hj with
    | 0, _ => rfl
    | 1, _ => rfl
    | 2, _ => rfl
    | 3, _ => rfl
    | 4, _ => rfl
    | 5, _ => rfl
    | 6, _ => rfl
    | 7, _ => rfl
    | 8, _ => rfl
    | 9, _ => rfl
    | 10, _ => rfl
    | 11, _ => rfl
    | 12, _ => rfl
    | 13, _ => rfl
    | 14, _ => rfl
    | 15, _ => rfl
    | 16, _ => rfl
    | 17, _ => rfl
    | 18, _ => rfl
    | 19, _ => rfl
    | 20, _ => rfl
    | j + 21, hj => absurd hj (by omega)
set_option maxHeartbeats 8000000 in
set_option maxRecDepth 100000 in
/-- THE LAW, from its entry -/
theorem whole_start {p : Program} {e : Env} {s : State} {m : MethodId} {below : List Frame} {meth : Method} {c : Code} (l : Launch) {b L : Nat} {xs : Nat → Int32} (hL : L ≤ 2560) (C0 : lw_At p s m meth c b L xs) : W p l e room_1 s m #[Value.ref b] below meth c s.heap [] 0 0 (lw_Z below #[Value.ref b] s) (entryFrame m ([Value.ref b] : List Value).toArray 4) := by
  obtain ⟨hx, hb, hr, hml, hown, hts, hX, hbl, hlocks, hgv⟩ := id C0
  have hown : s.vm.findClass RL = some m.cls := hown
  have hA : ∀ q : Nat, s.heap.size ≤ q → (fun q : Nat => s.heap.size ≤ q) q := fun _ h => h
  obtain ⟨c0, iS0, hKn0⟩ := u_known (C := RX0) (T := TX0) (N := 4) (n := 4) hts tr_wsX00 (hts (.instantiable RX0 4) (by decide +kernel))
  obtain ⟨c1, iS1, hKn1⟩ := u_known (C := RX2) (T := TX2) (N := 15) (n := 15) hts tr_wsX20 (hts (.instantiable RX2 15) (by decide +kernel))
  obtain ⟨c2, iS2, hKn2⟩ := u_known (C := RX3) (T := TX3) (N := 21) (n := 21) hts tr_wsX30 (hts (.instantiable RX3 21) (by decide +kernel))
  obtain ⟨D, hKc⟩ : ∃ D : va_G, ∀ (k : Nat) (q : vw_C), vwCl[k]? = some q → u_Kn s q.1 q.2.1 q.2.2 (D.1 k) (D.2 k) := by
    refine ⟨(fun k => match k with | 0 => c0 | 1 => c1 | _ => c2, fun k => match k with | 0 => iS0 | 1 => iS1 | _ => iS2), ?_⟩
    intro k q hq
    match k, hq with
    | 0, hq => cases hq; exact hKn0
    | 1, hq => cases hq; exact hKn1
    | 2, hq => cases hq; exact hKn2
    | k + 3, hq => simp [vwCl] at hq
  have hS : va_S (fun q : Nat => s.heap.size ≤ q) s.heap s.heap [] := va_S.rf
  have hK : va_K D vwCl [] s := ⟨hKc, fun k q h => by simp at h⟩
  have hP : va_P D vwCl [] s.heap := fun k q h => by simp at h
  have hD : va_D (fun q : Nat => s.heap.size ≤ q) [] := ⟨fun i j p q h => by simp at h, fun k q h => by simp at h⟩
  have hl := lv_entry ([.ref b]) (n := 4) (Nat.le_of_ble_eq_true rfl)
  rw [lg_entry_eq]
  generalize (lg_sl ([.ref b]) ++ List.replicate (4 - (lg_sl ([.ref b])).length) Slot.unset).toArray = ls at hl ⊢
  have hl : lv_has ls 4 [(0, .ref b)] := hl
  refine va_new (ci := 1) (fs := [.null, .null, .null, .null, .null, .null, .null, .long 0, .int 0, .int 0, .long 0, .null, .int 0, .null, .null]) (C := RX2) (T := TX2) (N := 15) hx hb hts tr_wsX20 tyX2 tyX2_ok hown (hts (.classLink RL 7 RX2) (by decide +kernel)) (hts (.instantiable RX2 15) (by decide +kernel)) (hts (.initialized RX2) (by decide +kernel)) hK hP hD hS hA rfl fs_X2 (Nat.le_of_ble_eq_true rfl) (Nat.le_of_ble_eq_true rfl) dL_law_0 (fun q0 H hP hD hS => ?_)
  have hP : va_P D vwCl [(q0, .inr (1, [.null, .null, .null, .null, .null, .null, .null, .long 0, .int 0, .int 0, .long 0, .null, .int 0, .null, .null]))] H := hP
  have hD : va_D (fun q : Nat => s.heap.size ≤ q) [(q0, .inr (1, [.null, .null, .null, .null, .null, .null, .null, .long 0, .int 0, .int 0, .long 0, .null, .int 0, .null, .null]))] := hD
  refine W.widen (k := 1) (n := 15) (Nat.le_of_ble_eq_true rfl) (Nat.le_of_ble_eq_true rfl) ?_
  refine lv_dup hx hb dL_law_3 rfl ?_
  have hFc := va_free (wc := [(q0, .inr (1, [.null, .null, .null, .null, .null, .null, .null, .long 0, .int 0, .int 0, .long 0, .null, .int 0, .null, .null]))]) hD hS hA [0] rfl
  have hw2 : ∀ w ∈ wsX2_init, w.before #[Value.ref b] s = true := fun w h => hts w (tm_X2_init w h)
  have hnest : va_Nw (.methodLinkNest RX2 49 yX0_init "PuppetBar") s := va_Nw.of rfl (hts (.methodLinkNest RX2 49 yX0_init "PuppetBar") (by decide +kernel))
  refine va_callv (va_runI (As := []) (rest := [.ref q0]) ⟨hx, hb, hml, hown, hw2⟩ (c_X2_init l D q0 H.size) (cwI 0 hw2 tg_X2_init rfl rfl rfl (hts (.initialized RX2) (by decide +kernel)) (hts (.methodLink RL 9 yX2_init) (by decide +kernel)) (hts (.instanceMethod yX2_init) (by decide +kernel)) rfl (by decide +kernel) ⟨(Nat.le_of_ble_eq_true rfl), (Nat.le_of_ble_eq_true rfl)⟩) ⟨fun a U g mk q => by obtain ⟨q0, ⟨q1, qP, qK, qD⟩, qN⟩ := q; exact ⟨q0, ⟨q1, qP, va_K.moved (u := U) (U := U.calling g mk a) (Vm.Alike.refl U.vm) qK, qD⟩, va_Nw.same rfl rfl qN⟩, fun U hU hW => ⟨rfl, ⟨by rw [hU], by rw [hU]; exact hP, va_K.moved hW.alike hK, hD.weaken (fun _ _ _ _ => trivial)⟩, va_Nw.warmM hW hnest⟩⟩ rfl rfl hl.1 rfl (lv_room (Nat.le_of_ble_eq_true rfl)) dL_law_4 ⟨(Nat.le_of_ble_eq_true rfl), (Nat.le_of_ble_eq_true rfl)⟩) hS (fun q _ h => hFc q h) hFc (fun u t H1 locs ht hvm hw hB hz1 hk1 hS => ?_)
  obtain ⟨K, a⟩ := u
  obtain ⟨hP1, hK1, hD1⟩ := hB
  rw [ht] at hP1
  have hK1 : va_K D vwCl (tyK K) s := va_K.moved hvm.symm hK1
  have hw : a 0 = q0 := hw
  subst hw
  obtain ⟨hP, hD⟩ := va_join (wr := []) (w1 := wB K a sB0) hP hD [0] [] rfl rfl (by decide) (by decide) hk1 hFc hP1 hD1
  have hP : va_P D vwCl (wB K a sB0) H1 := hP
  have hD : va_D (fun q : Nat => s.heap.size ≤ q) (wB K a sB0) := hD
  refine W.widen (k := 14) (n := 205) (Nat.le_of_ble_eq_true rfl) (Nat.le_of_ble_eq_true rfl) ?_
  refine lv_astore_n (lv' := [(1, .ref (a 0)), (0, .ref b)]) hx hb dL_law_7 rfl hl (by decide) rfl (fun ls hl => ?_)
  refine va_new (ci := 2) (fs := [.null, .null, .null, .null, .null, .null, .null, .long 0, .int 0, .int 0, .long 0, .int 0, .int 0, .null, .int 0, .null, .null, .null, .null, .null, .null]) (C := RX3) (T := TX3) (N := 21) hx hb hts tr_wsX30 tyX3 tyX3_ok hown (hts (.classLink RL 10 RX3) (by decide +kernel)) (hts (.instantiable RX3 21) (by decide +kernel)) (hts (.initialized RX3) (by decide +kernel)) hK hP hD hS hA rfl fs_X3 (Nat.le_of_ble_eq_true rfl) (Nat.le_of_ble_eq_true rfl) dL_law_8 (fun q1 H2 hP hD hS => ?_)
  have hP : va_P D vwCl (wB K a sB0 ++ [(q1, .inr (2, [.null, .null, .null, .null, .null, .null, .null, .long 0, .int 0, .int 0, .long 0, .int 0, .int 0, .null, .int 0, .null, .null, .null, .null, .null, .null]))]) H2 := hP
  have hD : va_D (fun q : Nat => s.heap.size ≤ q) (wB K a sB0 ++ [(q1, .inr (2, [.null, .null, .null, .null, .null, .null, .null, .long 0, .int 0, .int 0, .long 0, .int 0, .int 0, .null, .int 0, .null, .null, .null, .null, .null, .null]))]) := hD
  refine W.widen (k := 15) (n := 226) (Nat.le_of_ble_eq_true rfl) (Nat.le_of_ble_eq_true rfl) ?_
  refine lv_dup hx hb dL_law_11 rfl ?_
  have hPc := hP.sub (ws' := [(q1, .inr (2, [.null, .null, .null, .null, .null, .null, .null, .long 0, .int 0, .int 0, .long 0, .int 0, .int 0, .null, .int 0, .null, .null, .null, .null, .null, .null]))]) [14] rfl
  have hDc := hD.sub (ws' := [(q1, .inr (2, [.null, .null, .null, .null, .null, .null, .null, .long 0, .int 0, .int 0, .long 0, .int 0, .int 0, .null, .int 0, .null, .null, .null, .null, .null, .null]))]) [14] (by decide) rfl
  have hFc := va_free (wc := [(q1, .inr (2, [.null, .null, .null, .null, .null, .null, .null, .long 0, .int 0, .int 0, .long 0, .int 0, .int 0, .null, .int 0, .null, .null, .null, .null, .null, .null]))]) hD hS hA [14] rfl
  have hw3 : ∀ w ∈ wsX3_init, w.before #[Value.ref b] s = true := fun w h => hts w (tm_X3_init w h)
  refine va_callv (va_runI (As := []) (rest := [.ref q1]) ⟨hx, hb, hml, hown, hw3⟩ (c_X3_init l D q1 H2.size) (cwI 0 hw3 tg_X3_init rfl rfl rfl (hts (.initialized RX3) (by decide +kernel)) (hts (.methodLink RL 12 yX3_init) (by decide +kernel)) (hts (.instanceMethod yX3_init) (by decide +kernel)) rfl (by decide +kernel) ⟨(Nat.le_of_ble_eq_true rfl), (Nat.le_of_ble_eq_true rfl)⟩) ⟨fun a U g mk q => by obtain ⟨q0, q1, qP, qK, qD⟩ := q; exact ⟨q0, q1, qP, va_K.moved (u := U) (U := U.calling g mk a) (Vm.Alike.refl U.vm) qK, qD⟩, fun U hU hW => ⟨rfl, by rw [hU], by rw [hU]; exact hPc, va_K.moved hW.alike hK, hDc.weaken (fun _ _ _ _ => trivial)⟩⟩ rfl rfl hl.1 rfl (lv_room (Nat.le_of_ble_eq_true rfl)) dL_law_12 ⟨(Nat.le_of_ble_eq_true rfl), (Nat.le_of_ble_eq_true rfl)⟩) hS (fun q _ h => hFc q h) hFc (fun u t H3 locs ht hvm hw hB hz1 hk1 hS => ?_)
  obtain ⟨K2, b2⟩ := u
  obtain ⟨hP1, hK2, hD1⟩ := hB
  rw [ht] at hP1
  have hK2 : va_K D vwCl (tyK K2) s := va_K.moved hvm.symm hK2
  have hw : b2 0 = q1 := hw
  subst hw
  obtain ⟨hP, hD⟩ := va_join (wr := wB K a sB0) (w1 := wM K2 b2 sM0) hP hD [14] [0, 1, 2, 3, 4, 5, 6, 7, 8, 9, 10, 11, 12, 13] rfl rfl (by decide) (by decide) hk1 hFc hP1 hD1
  have hP : va_P D vwCl (wM K2 b2 sM0 ++ wB K a sB0) H3 := hP.sub [14, 15, 16, 17, 18, 19, 20, 21, 22, 23, 24, 25, 26, 27, 28, 0, 1, 2, 3, 4, 5, 6, 7, 8, 9, 10, 11, 12, 13] rfl
  have hD : va_D (fun q : Nat => s.heap.size ≤ q) (wM K2 b2 sM0 ++ wB K a sB0) := hD.sub [14, 15, 16, 17, 18, 19, 20, 21, 22, 23, 24, 25, 26, 27, 28, 0, 1, 2, 3, 4, 5, 6, 7, 8, 9, 10, 11, 12, 13] (by decide) rfl
  refine W.widen (k := 29) (n := 442) (Nat.le_of_ble_eq_true rfl) (Nat.le_of_ble_eq_true rfl) ?_
  refine lv_astore_n (lv' := [(2, .ref (b2 0)), (1, .ref (a 0)), (0, .ref b)]) hx hb dL_law_15 rfl hl (by decide) rfl (fun ls hl => ?_)
  refine lv_iconst (v := 0) hx hb dL_law_16 (by decide) ?_
  refine lv_istore_n (lv' := [(3, .int 0), (2, .ref (b2 0)), (1, .ref (a 0)), (0, .ref b)]) hx hb dL_law_17 rfl hl (by decide) rfl (fun ls hl => ?_)
  exact law_loop l hL C0 hK1 hK2 (L + 1) 0 sB0 sM0 H3 locs ls (Nat.zero_le L) (by omega) rr_0 hP hD hS (lv_sub hl [3, 2, 1, 0] rfl)
