def FigOK (s : SB) (m : SM) : Prop := ∃ q : Nat, q ≤ 40 ∧ gB_sz s = nI q ∧ gM_st m = nI q ∧ ∀ j, j < q → gB_MV s j = gM_FG m (3 * j) ∧ gB_TH s j = gM_FG m (3 * j + 1) ∧ gB_OT s j = gM_FG m (3 * j + 2)
def DanOK (s : SB) (m : SM) : Prop := gB_LD s 0 = gM_en m ∧ ∀ i, i < 4 → gB_LD s (i + 1) = gM_CG m i
def ZOK (f : Nat → Int32) : Prop := ∀ k : Nat, narrow .boolean (.int (f k)) = .int (f k)
/-- the class's state stands for the reference's -/
def RR (s : SB) (m : SM) : Prop := s.1 = m.1 ∧ gB_Z s = gM_Z m ∧ gB_re s = gM_re m ∧ FigOK s m ∧ DanOK s m ∧ numC s.1 ∧ ZOK (gB_Z s)
theorem x_thr (s : SB) (m : SM) (h : gB_Z s = gM_Z m) (t : Int32) : f_X2_refusalOfThread s t = f_X3_lack m t := by
  unfold f_X2_refusalOfThread f_X3_lack f_X3_isThread
  rw [h]
  by_cases c1 : t < 0
  · rw [if_pos c1, if_pos c1, if_pos rfl]
  · rw [if_neg c1, if_neg c1]
    by_cases c2 : t < 8
    · rw [if_pos c2, if_neg (ltn c2), if_neg (show ¬ (1 : Int32) = 0 by decide)]
    · rw [if_neg c2, if_pos (Int32.not_lt.mp c2), if_pos rfl]
theorem lk_le (m : SM) (t : Int32) : f_X3_lack m t ≤ 0 ↔ f_X3_lack m t = 0 := by
  unfold f_X3_lack
  by_cases c1 : f_X3_isThread t = 0
  · rw [if_pos c1]; decide
  · rw [if_neg c1]
    by_cases c2 : gM_Z m t.toNatClampNeg = 0
    · rw [if_pos c2]; decide
    · rw [if_neg c2]; decide
theorem x_wants (n : Int32) : f_X2_wantsOther n = f_X3_wantsOther n := rfl
theorem x_mv (s : SB) (m : SM) (h : gB_Z s = gM_Z m) (n t u : Int32) : f_X2_refusalOfMove s n t u = f_X3_lackOf m n t u := by
  unfold f_X2_refusalOfMove f_X3_lackOf
  dsimp only
  rw [x_thr s m h, x_thr s m h, x_wants]
  by_cases c1 : n < 0
  · rw [if_pos c1, if_pos c1]
  · rw [if_neg c1, if_neg c1]
    by_cases c2 : n ≤ 15
    · rw [if_pos c2, if_pos c2]
      by_cases c3 : f_X3_lack m t = 0
      · rw [if_pos c3, if_pos ((lk_le m t).mpr c3)]
        by_cases c4 : f_X3_wantsOther n = 0
        · rw [if_pos c4, if_pos c4, c3]
        · rw [if_neg c4, if_neg c4]
          by_cases c5 : f_X3_lack m u = 0
          · rw [if_pos c5, if_pos ((lk_le m u).mpr c5)]
          · rw [if_neg c5, if_neg (fun q => c5 ((lk_le m u).mp q)), Int32.add_comm]
      · rw [if_neg c3, if_neg (fun q => c3 ((lk_le m t).mp q))]
    · rw [if_neg c2, if_neg c2]
theorem lo_le (m : SM) (n t u : Int32) : f_X3_lackOf m n t u ≤ 0 ↔ f_X3_lackOf m n t u = 0 := by
  unfold f_X3_lackOf
  by_cases c1 : n < 0
  · rw [if_pos c1]; decide
  · rw [if_neg c1]
    by_cases c2 : n ≤ 15
    · rw [if_pos c2]
      by_cases c3 : f_X3_lack m t ≤ 0
      · rw [if_pos c3]
        by_cases c4 : f_X3_wantsOther n = 0
        · rw [if_pos c4]; decide
        · rw [if_neg c4]
          by_cases c5 : f_X3_lack m u ≤ 0
          · rw [if_pos c5]; decide
          · rw [if_neg c5]
            unfold f_X3_lack
            by_cases c6 : f_X3_isThread u = 0
            · rw [if_pos c6]; decide
            · rw [if_neg c6]
              by_cases c7 : gM_Z m u.toNatClampNeg = 0
              · rw [if_pos c7]; decide
              · rw [if_neg c7]; decide
      · rw [if_neg c3]; exact lk_le m t
    · rw [if_neg c2]; decide
theorem nz_up {f : Nat → Int32} {t : Nat} {x : Int32} (h : ZOK f) (hx : narrow .boolean (.int x) = .int x) : ZOK (upd f t x) := by
  intro k
  unfold upd
  split
  · exact hx
  · exact h k
theorem q_refused {s : SB} {m : SM} (h : RR s m) : f_X2_refused s = f_X3_refused m := h.2.2.1
theorem q_bar {s : SB} {m : SM} (h : RR s m) (k : Int32) : f_X2_bar s k = f_X3_bar m k := by
  have hc := h.1
  unfold f_X2_bar f_X3_bar
  show (if k = 0 then s.1.2.1 else if k = 1 then s.1.2.2.1.toInt64 else if k = 2 then s.1.2.2.2.1.toInt64 else if k = 3 then s.1.2.2.2.2 else 0) = _
  rw [hc]
theorem q_danced {s : SB} {m : SM} (h : RR s m) (k : Int32) : f_X2_danced s k = f_X3_danced m k := by
  obtain ⟨-, -, -, -, ⟨h0, h4⟩, -⟩ := h
  unfold f_X2_danced f_X3_danced
  by_cases c1 : k < 0
  · rw [if_pos c1, if_pos c1]
  · rw [if_neg c1, if_neg c1]
    by_cases c2 : k ≤ 4
    · obtain ⟨j, hj, rfl⟩ := nI_of2 (n := 4) (by decide) c1 c2
      rw [if_pos c2, if_neg (show ¬ (5 : Int32) ≤ nI j from nI_ge (a := j) (b := 5) (by omega) (by decide)), nI_clamp (by omega)]
      match j, hj with
      | 0, _ => exact h0
      | j + 1, hj =>
        rw [if_neg (nI_ne0 (by omega) (by omega)), nI_pred, nI_clamp (by omega)]
        exact h4 j (by omega)
    · rw [if_neg c2]
      by_cases c3 : (5 : Int32) ≤ k
      · rw [if_pos c3]
      · exfalso
        obtain ⟨j, hj, rfl⟩ := nI_of c1
        have e1 : ¬ j ≤ 4 := fun q => c2 (nI_le (a := j) (b := 4) q (by decide))
        exact c3 (nI_le (a := 5) (b := j) (by omega) hj)
theorem q_forget {s : SB} {m : SM} (h : RR s m) : (f_X2_forget s).1 = (f_X3_forget m).1 ∧ RR (f_X2_forget s).2 (f_X3_forget m).2 := by
  obtain ⟨h1, h2, h3, ⟨q, hq, e1, e2, -⟩, h5, h6, h7⟩ := h
  exact ⟨e1.trans e2.symm, h1, h2, h3, ⟨0, by decide, rfl, rfl, fun j hj => absurd hj (by omega)⟩, h5, h6, h7⟩
theorem q_step {s : SB} {m : SM} (h : RR s m) (n t u : Int32) : (f_X2_step s n t u).1 = (f_X3_step m n t u).1 ∧ RR (f_X2_step s n t u).2 (f_X3_step m n t u).2 := by
  have h0 := h
  obtain ⟨h1, h2, h3, ⟨q, hq, e1, e2, hF⟩, h5, h6, h7⟩ := h
  unfold f_X2_step f_X3_step
  dsimp only
  rw [e1, e2, if_neg (nI_pos (by omega))]
  by_cases c : q = 40
  · rw [if_neg (show ¬ nI q < (40 : Int32) from nI_nlt (a := q) (b := 40) (by omega) (by omega)), if_pos (show nI q = 40 by rw [c]; rfl)]
    exact ⟨rfl, h0⟩
  · rw [if_pos (show nI q < (40 : Int32) from nI_lt (a := q) (b := 40) (by omega) (by decide)), if_neg (show ¬ nI q = (40 : Int32) from fun z => c ((nI_eq (b := 40) (by omega) (by decide)).mp z))]
    refine ⟨rfl, h1, h2, h3, ⟨q + 1, by omega, nI_1 q, nI_1 q, fun j hj => ?_⟩, h5, h6, h7⟩
    have i0 : ((3 : Int32) * nI q).toNatClampNeg = 3 * q := by rw [show (3 : Int32) * nI q = nI (3 * q) from pk_mul 3 q, nI_clamp (by omega)]
    have i1 : ((3 : Int32) * nI q + 1).toNatClampNeg = 3 * q + 1 := by rw [show (3 : Int32) * nI q = nI (3 * q) from pk_mul 3 q, nI_1, nI_clamp (by omega)]
    have i2 : ((3 : Int32) * nI q + 2).toNatClampNeg = 3 * q + 2 := by rw [show (3 : Int32) * nI q = nI (3 * q) from pk_mul 3 q, show nI (3 * q) + 2 = nI (3 * q + 2) from nI_add _ 2, nI_clamp (by omega)]
    have i3 : (nI q).toNatClampNeg = q := nI_clamp (by omega)
    show upd (gB_MV s) (nI q).toNatClampNeg n j = upd (upd (upd (gM_FG m) ((3 : Int32) * nI q).toNatClampNeg n) ((3 : Int32) * nI q + 1).toNatClampNeg t) ((3 : Int32) * nI q + 2).toNatClampNeg u (3 * j) ∧ upd (gB_TH s) (nI q).toNatClampNeg t j = upd (upd (upd (gM_FG m) ((3 : Int32) * nI q).toNatClampNeg n) ((3 : Int32) * nI q + 1).toNatClampNeg t) ((3 : Int32) * nI q + 2).toNatClampNeg u (3 * j + 1) ∧ upd (gB_OT s) (nI q).toNatClampNeg u j = upd (upd (upd (gM_FG m) ((3 : Int32) * nI q).toNatClampNeg n) ((3 : Int32) * nI q + 1).toNatClampNeg t) ((3 : Int32) * nI q + 2).toNatClampNeg u (3 * j + 2)
    rw [i0, i1, i2, i3]
    by_cases cj : j = q
    · subst cj
      rw [pk_us, pk_us, pk_us, pk_un (by omega), pk_un (by omega), pk_us, pk_un (by omega), pk_us, pk_us]
      exact ⟨rfl, rfl, rfl⟩
    · rw [pk_un cj, pk_un cj, pk_un cj, pk_un (by omega), pk_un (by omega), pk_un (by omega), pk_un (by omega), pk_un (by omega), pk_un (by omega), pk_un (by omega), pk_un (by omega), pk_un (by omega)]
      exact hF j (by omega)
theorem q_cut {s : SB} {m : SM} (h : RR s m) (t : Int32) : (f_X2_cut s t).1 = (f_X3_cut m t).1 ∧ RR (f_X2_cut s t).2 (f_X3_cut m t).2 := by
  obtain ⟨h1, h2, h3, h4, h5, h6, h7⟩ := h
  unfold f_X2_cut f_X3_cut
  rw [x_thr s m h2]
  by_cases c : f_X3_lack m t = 0
  · rw [if_pos c, if_pos c]
    refine ⟨rfl, h1, ?_, rfl, h4, h5, h6, nz_up h7 rfl⟩
    show upd (gB_Z s) _ _ = upd (gM_Z m) _ _
    rw [h2]
  · rw [if_neg c, if_neg c]
    exact ⟨rfl, h1, h2, rfl, h4, h5, h6, h7⟩
