section LAW
variable {p : Program} {l : Launch} {e : Env} {R : Room} {s : State} {m : MethodId} {args : Array Value} {below : List Frame} {meth : Method} {c : Code} {H : Heap} {locs : List Loc} {cells slots : Nat} {Q : State → Prop}
variable {y : MethodName} {bytes cc : ByteArray} {maxL nL n index pc : Nat} {ret : Option FieldType} {ws : List Cond} {rm : Room} {Ts : List Cond} {own : String} {As rest st0 : List Value} {ls : Array Slot}
variable {D : va_G} {A : Nat → Prop} {K K2 : ClassId × ClassId × ClassId} {a b2 : Nat → Nat}
set_option maxHeartbeats 4000000 in
theorem lb_I {mm : SM} {s1 s2 : SB} {r : Int32} (hM : MetI l y ws rm D vwCl (tyK K) (wB K a) (.ref (a 0) :: As) s1 r s2) (F : CallFix p m c cc nL s args Ts own) (cw : CallW R s args own RX2 index y bytes maxL ret ws rm 0 0 n) (hK : va_K D vwCl (tyK K) s) (hP : va_P D vwCl (wM K2 b2 mm ++ wB K a s1) H) (hD : va_D A (wM K2 b2 mm ++ wB K a s1)) (hS : va_S A s.heap H locs) (hA : ∀ q : Nat, s.heap.size ≤ q → A q)
    (hn : As.length = n) (hls : ls.size = nL) (hst : st0 = As.reverse ++ .ref (a 0) :: rest) (hroom : (rest.map fun v => v.category).sum ≤ 8) (hc : cells ≤ R.cells) (hsl : slots ≤ R.slots) (hdg : decode cc pc = .ok (.invokevirtual index, 3))
    (kk : ∀ (H1 : Heap) (locs1 : List Loc), va_P D vwCl (wM K2 b2 mm ++ wB K a s2) H1 → va_D A (wM K2 b2 mm ++ wB K a s2) → va_S A s.heap H1 locs1 → W p l e R s m args below meth c H1 locs1 cells slots Q (F0 m (pc + 3) ls (.int r :: rest))) : W p l e R s m args below meth c H locs cells slots Q (F0 m pc ls st0) := by
  subst hst
  have hPc := hP.sub (ws' := wB K a s1) [15, 16, 17, 18, 19, 20, 21, 22, 23, 24, 25, 26, 27, 28] rfl
  have hDc := hD.sub (ws' := wB K a s1) [15, 16, 17, 18, 19, 20, 21, 22, 23, 24, 25, 26, 27, 28] (by decide) rfl
  have hFc := va_free (wc := wB K a s1) hD hS hA [15, 16, 17, 18, 19, 20, 21, 22, 23, 24, 25, 26, 27, 28] rfl
  refine va_calli (va_runV (As := As) (rest := rest) F (hM H.size) cw ⟨bs_blind, va_recv hK hPc (ci := 1) (q0 := 0) rfl rfl, fun U hU hW => ⟨rfl, by rw [hU], by rw [hU]; exact hPc, va_K.moved hW.alike hK, hDc.weaken (fun _ _ _ _ => trivial)⟩⟩ rfl hn hls rfl (lv_room hroom) hdg ⟨hc, hsl⟩) hS (fun q _ h => hFc q h) hFc (fun x u t H1 locs1 ht hvm hu hB hz hk hS1 => ?_)
  obtain ⟨hP1, -, hD1⟩ := hB
  obtain ⟨hx, hu⟩ := hu
  subst hx
  subst hu
  rw [ht] at hP1
  obtain ⟨hP, hD⟩ := va_join (wr := wM K2 b2 mm) (w1 := wB K a u) hP hD [15, 16, 17, 18, 19, 20, 21, 22, 23, 24, 25, 26, 27, 28] [0, 1, 2, 3, 4, 5, 6, 7, 8, 9, 10, 11, 12, 13, 14] rfl rfl (by decide) (by decide) hk hFc hP1 hD1
  exact kk H1 locs1 hP hD hS1
set_option maxHeartbeats 4000000 in
theorem lb_L {mm : SM} {s1 s2 : SB} {r : Int64} (hM : MetL l y ws rm D vwCl (tyK K) (wB K a) (.ref (a 0) :: As) s1 r s2) (F : CallFix p m c cc nL s args Ts own) (cw : CallW R s args own RX2 index y bytes maxL ret ws rm 0 0 n) (hK : va_K D vwCl (tyK K) s) (hP : va_P D vwCl (wM K2 b2 mm ++ wB K a s1) H) (hD : va_D A (wM K2 b2 mm ++ wB K a s1)) (hS : va_S A s.heap H locs) (hA : ∀ q : Nat, s.heap.size ≤ q → A q)
    (hn : As.length = n) (hls : ls.size = nL) (hst : st0 = As.reverse ++ .ref (a 0) :: rest) (hroom : (rest.map fun v => v.category).sum ≤ 8) (hc : cells ≤ R.cells) (hsl : slots ≤ R.slots) (hdg : decode cc pc = .ok (.invokevirtual index, 3))
    (kk : ∀ (H1 : Heap) (locs1 : List Loc), va_P D vwCl (wM K2 b2 mm ++ wB K a s2) H1 → va_D A (wM K2 b2 mm ++ wB K a s2) → va_S A s.heap H1 locs1 → W p l e R s m args below meth c H1 locs1 cells slots Q (F0 m (pc + 3) ls (.long r :: rest))) : W p l e R s m args below meth c H locs cells slots Q (F0 m pc ls st0) := by
  subst hst
  have hPc := hP.sub (ws' := wB K a s1) [15, 16, 17, 18, 19, 20, 21, 22, 23, 24, 25, 26, 27, 28] rfl
  have hDc := hD.sub (ws' := wB K a s1) [15, 16, 17, 18, 19, 20, 21, 22, 23, 24, 25, 26, 27, 28] (by decide) rfl
  have hFc := va_free (wc := wB K a s1) hD hS hA [15, 16, 17, 18, 19, 20, 21, 22, 23, 24, 25, 26, 27, 28] rfl
  refine va_calll (va_runV (As := As) (rest := rest) F (hM H.size) cw ⟨bs_blind, va_recv hK hPc (ci := 1) (q0 := 0) rfl rfl, fun U hU hW => ⟨rfl, by rw [hU], by rw [hU]; exact hPc, va_K.moved hW.alike hK, hDc.weaken (fun _ _ _ _ => trivial)⟩⟩ rfl hn hls rfl (lv_room hroom) hdg ⟨hc, hsl⟩) hS (fun q _ h => hFc q h) hFc (fun x u t H1 locs1 ht hvm hu hB hz hk hS1 => ?_)
  obtain ⟨hP1, -, hD1⟩ := hB
  obtain ⟨hx, hu⟩ := hu
  subst hx
  subst hu
  rw [ht] at hP1
  obtain ⟨hP, hD⟩ := va_join (wr := wM K2 b2 mm) (w1 := wB K a u) hP hD [15, 16, 17, 18, 19, 20, 21, 22, 23, 24, 25, 26, 27, 28] [0, 1, 2, 3, 4, 5, 6, 7, 8, 9, 10, 11, 12, 13, 14] rfl rfl (by decide) (by decide) hk hFc hP1 hD1
  exact kk H1 locs1 hP hD hS1
set_option maxHeartbeats 4000000 in
theorem lm_I {ss : SB} {s1 s2 : SM} {r : Int32} (hM : MetI l y ws rm D vwCl (tyK K2) (wM K2 b2) (.ref (b2 0) :: As) s1 r s2) (F : CallFix p m c cc nL s args Ts own) (cw : CallW R s args own RX3 index y bytes maxL ret ws rm 0 0 n) (hK : va_K D vwCl (tyK K2) s) (hP : va_P D vwCl (wM K2 b2 s1 ++ wB K a ss) H) (hD : va_D A (wM K2 b2 s1 ++ wB K a ss)) (hS : va_S A s.heap H locs) (hA : ∀ q : Nat, s.heap.size ≤ q → A q)
    (hn : As.length = n) (hls : ls.size = nL) (hst : st0 = As.reverse ++ .ref (b2 0) :: rest) (hroom : (rest.map fun v => v.category).sum ≤ 8) (hc : cells ≤ R.cells) (hsl : slots ≤ R.slots) (hdg : decode cc pc = .ok (.invokevirtual index, 3))
    (kk : ∀ (H1 : Heap) (locs1 : List Loc), va_P D vwCl (wM K2 b2 s2 ++ wB K a ss) H1 → va_D A (wM K2 b2 s2 ++ wB K a ss) → va_S A s.heap H1 locs1 → W p l e R s m args below meth c H1 locs1 cells slots Q (F0 m (pc + 3) ls (.int r :: rest))) : W p l e R s m args below meth c H locs cells slots Q (F0 m pc ls st0) := by
  subst hst
  have hPc := hP.sub (ws' := wM K2 b2 s1) [0, 1, 2, 3, 4, 5, 6, 7, 8, 9, 10, 11, 12, 13, 14] rfl
  have hDc := hD.sub (ws' := wM K2 b2 s1) [0, 1, 2, 3, 4, 5, 6, 7, 8, 9, 10, 11, 12, 13, 14] (by decide) rfl
  have hFc := va_free (wc := wM K2 b2 s1) hD hS hA [0, 1, 2, 3, 4, 5, 6, 7, 8, 9, 10, 11, 12, 13, 14] rfl
  refine va_calli (va_runV (As := As) (rest := rest) F (hM H.size) cw ⟨bs_blind, va_recv hK hPc (ci := 2) (q0 := 0) rfl rfl, fun U hU hW => ⟨rfl, by rw [hU], by rw [hU]; exact hPc, va_K.moved hW.alike hK, hDc.weaken (fun _ _ _ _ => trivial)⟩⟩ rfl hn hls rfl (lv_room hroom) hdg ⟨hc, hsl⟩) hS (fun q _ h => hFc q h) hFc (fun x u t H1 locs1 ht hvm hu hB hz hk hS1 => ?_)
  obtain ⟨hP1, -, hD1⟩ := hB
  obtain ⟨hx, hu⟩ := hu
  subst hx
  subst hu
  rw [ht] at hP1
  obtain ⟨hP, hD⟩ := va_join (wr := wB K a ss) (w1 := wM K2 b2 u) hP hD [0, 1, 2, 3, 4, 5, 6, 7, 8, 9, 10, 11, 12, 13, 14] [15, 16, 17, 18, 19, 20, 21, 22, 23, 24, 25, 26, 27, 28] rfl rfl (by decide) (by decide) hk hFc hP1 hD1
  exact kk H1 locs1 (hP.sub [14, 15, 16, 17, 18, 19, 20, 21, 22, 23, 24, 25, 26, 27, 28, 0, 1, 2, 3, 4, 5, 6, 7, 8, 9, 10, 11, 12, 13] rfl) (hD.sub [14, 15, 16, 17, 18, 19, 20, 21, 22, 23, 24, 25, 26, 27, 28, 0, 1, 2, 3, 4, 5, 6, 7, 8, 9, 10, 11, 12, 13] (by decide) rfl) hS1
set_option maxHeartbeats 4000000 in
theorem lm_L {ss : SB} {s1 s2 : SM} {r : Int64} (hM : MetL l y ws rm D vwCl (tyK K2) (wM K2 b2) (.ref (b2 0) :: As) s1 r s2) (F : CallFix p m c cc nL s args Ts own) (cw : CallW R s args own RX3 index y bytes maxL ret ws rm 0 0 n) (hK : va_K D vwCl (tyK K2) s) (hP : va_P D vwCl (wM K2 b2 s1 ++ wB K a ss) H) (hD : va_D A (wM K2 b2 s1 ++ wB K a ss)) (hS : va_S A s.heap H locs) (hA : ∀ q : Nat, s.heap.size ≤ q → A q)
    (hn : As.length = n) (hls : ls.size = nL) (hst : st0 = As.reverse ++ .ref (b2 0) :: rest) (hroom : (rest.map fun v => v.category).sum ≤ 8) (hc : cells ≤ R.cells) (hsl : slots ≤ R.slots) (hdg : decode cc pc = .ok (.invokevirtual index, 3))
    (kk : ∀ (H1 : Heap) (locs1 : List Loc), va_P D vwCl (wM K2 b2 s2 ++ wB K a ss) H1 → va_D A (wM K2 b2 s2 ++ wB K a ss) → va_S A s.heap H1 locs1 → W p l e R s m args below meth c H1 locs1 cells slots Q (F0 m (pc + 3) ls (.long r :: rest))) : W p l e R s m args below meth c H locs cells slots Q (F0 m pc ls st0) := by
  subst hst
  have hPc := hP.sub (ws' := wM K2 b2 s1) [0, 1, 2, 3, 4, 5, 6, 7, 8, 9, 10, 11, 12, 13, 14] rfl
  have hDc := hD.sub (ws' := wM K2 b2 s1) [0, 1, 2, 3, 4, 5, 6, 7, 8, 9, 10, 11, 12, 13, 14] (by decide) rfl
  have hFc := va_free (wc := wM K2 b2 s1) hD hS hA [0, 1, 2, 3, 4, 5, 6, 7, 8, 9, 10, 11, 12, 13, 14] rfl
  refine va_calll (va_runV (As := As) (rest := rest) F (hM H.size) cw ⟨bs_blind, va_recv hK hPc (ci := 2) (q0 := 0) rfl rfl, fun U hU hW => ⟨rfl, by rw [hU], by rw [hU]; exact hPc, va_K.moved hW.alike hK, hDc.weaken (fun _ _ _ _ => trivial)⟩⟩ rfl hn hls rfl (lv_room hroom) hdg ⟨hc, hsl⟩) hS (fun q _ h => hFc q h) hFc (fun x u t H1 locs1 ht hvm hu hB hz hk hS1 => ?_)
  obtain ⟨hP1, -, hD1⟩ := hB
  obtain ⟨hx, hu⟩ := hu
  subst hx
  subst hu
  rw [ht] at hP1
  obtain ⟨hP, hD⟩ := va_join (wr := wB K a ss) (w1 := wM K2 b2 u) hP hD [0, 1, 2, 3, 4, 5, 6, 7, 8, 9, 10, 11, 12, 13, 14] [15, 16, 17, 18, 19, 20, 21, 22, 23, 24, 25, 26, 27, 28] rfl rfl (by decide) (by decide) hk hFc hP1 hD1
  exact kk H1 locs1 (hP.sub [14, 15, 16, 17, 18, 19, 20, 21, 22, 23, 24, 25, 26, 27, 28, 0, 1, 2, 3, 4, 5, 6, 7, 8, 9, 10, 11, 12, 13] rfl) (hD.sub [14, 15, 16, 17, 18, 19, 20, 21, 22, 23, 24, 25, 26, 27, 28, 0, 1, 2, 3, 4, 5, 6, 7, 8, 9, 10, 11, 12, 13] (by decide) rfl) hS1
end LAW
theorem rr_st {s : SB} {m : SM} (h : RR s m) : ∃ j : Nat, j ≤ 40 ∧ gM_st m = nI j := by
  obtain ⟨-, -, -, ⟨q, hq, -, e2, -⟩, -⟩ := h
  exact ⟨q, hq, e2⟩
theorem rr_zB {s : SB} {m : SM} (h : RR s m) : ∀ k : Nat, narrow .boolean (.int (gB_Z s k)) = .int (gB_Z s k) := h.2.2.2.2.2.2
theorem rr_zM {s : SB} {m : SM} (h : RR s m) : ∀ k : Nat, narrow .boolean (.int (gM_Z m k)) = .int (gM_Z m k) := by
  have := h.2.2.2.2.2.2
  rw [h.2.1] at this
  exact this
theorem lc_in {L i : Nat} (hL : L ≤ 2560) (hi : i ≤ L) (h : ¬ nI L - 5 < nI i) : i + 5 ≤ L := by
  rcases Nat.lt_or_ge L 5 with c | c
  · exfalso
    have e := nI_pos' (n := i) (by omega)
    exact h (Int32.lt_of_lt_of_le (pk_sneg (a := L) (b := 5) (by decide) c) e)
  · rcases Nat.lt_or_ge L (i + 5) with d | d
    · exfalso
      apply h
      rw [show nI L - 5 = nI (L - 5) from pk_sub (a := L) (b := 5) c]
      exact nI_lt (by omega) (by omega)
    · exact d
theorem lc_ix {L i k : Nat} (hL : L ≤ 2560) (h : i + 5 ≤ L) (hk : k < 5) : vp_in (nI i + nI k) L := by
  rw [nI_add]
  exact nI_in (by omega) (by omega)
