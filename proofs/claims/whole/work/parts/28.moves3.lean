theorem v_give (s : SB) (c : Cor) (t : Int32) (ht : vp_in t 8) : MvOK s c (f_X2_give (NB s c 0 0 0 0) t) (uT (uK (uP (uL c t.toNatClampNeg c.2.1) t.toNatClampNeg c.2.2.1) t.toNatClampNeg c.2.2.2.1) t.toNatClampNeg c.2.2.2.2) := by
  unfold f_X2_give
  dsimp only
  rw [chL, chP, chK, chT]
  exact ⟨_, _, _, _, rfl, cn4 (in8 ht)⟩
theorem am_0 (b : Int64) : f_X3_amount b 52 ≤ 0 ↔ f_X1_amount b = 0 := by
  obtain ⟨m, σ, hm, hσ, rfl, hn⟩ := spl b
  have e : f_X3_amount (lN (m + σ)) 52 = lN m := m_amt ok52 hm hσ
  rw [e, a52 hm hσ]
  constructor
  · intro h
    have := (pk_lLE (b := 0) hm (by decide)).mp h
    rw [show m = 0 by omega]; rfl
  · intro h
    rw [h]
    decide
theorem am_4 (p : Int32) : f_X3_amount4 p ≤ 0 ↔ f_X1_shortAmount p = 0 := by
  obtain ⟨m, σ, hm, hσ, rfl, hn⟩ := spi p
  unfold f_X3_amount4 f_X1_shortAmount
  rw [pk_andN (show m + σ < 2 ^ 32 by omega) 31 (by decide), show (m + σ) % 2 ^ 31 = m by omega]
  constructor
  · intro h
    have := (nI_leI (b := 0) hm (by decide)).mp h
    rw [show m = 0 by omega]; rfl
  · intro h
    rw [h]
    decide
theorem v_climb (s : SB) (c : Cor) (m : SM) (hc : m.1 = c) (t : Int32) (ht : vp_in t 8) : MvOK s c (f_X2_climb (NB s c 0 0 0 0) t) (f_X3_climb m t).1 := by
  subst hc
  have h8 := in8 ht
  unfold f_X2_climb f_X3_climb
  dsimp only
  rw [chT, chT, chK, chK, chT, chT, chT, chT]
  have d1 : f_X1_amount (gB_L (NB s m.1 0 0 0 0) t.toNatClampNeg) = f_X1_amount (gM_L m t.toNatClampNeg) := rfl
  have n1 : ∀ x : Int64, x - 1 = x + (-1) := fun x => Int64.sub_eq_add_neg x 1
  have n2 : ∀ x : Int32, x - 1 = x + (-1) := fun x => Int32.sub_eq_add_neg x 1
  rw [d1]
  by_cases h1 : f_X1_amount (gM_L m t.toNatClampNeg) = 0
  · rw [if_pos h1, if_pos ((am_0 _).mpr h1)]
    by_cases h2 : f_X1_shortAmount (gM_P m t.toNatClampNeg) = 0
    · rw [if_pos (show f_X1_shortAmount (gB_P (NB s m.1 0 0 0 0) t.toNatClampNeg) = 0 from h2), if_pos ((am_4 _).mpr h2)]
      exact ⟨0, 0, 0, 0, rfl, cn0 rfl rfl rfl rfl⟩
    · rw [if_neg (show ¬ f_X1_shortAmount (gB_P (NB s m.1 0 0 0 0) t.toNatClampNeg) = 0 from h2), if_neg (fun q => h2 ((am_4 _).mp q))]
      by_cases h3 : 0 ≤ gM_P m t.toNatClampNeg
      · rw [if_pos (show 0 ≤ gB_P (NB s m.1 0 0 0 0) t.toNatClampNeg from h3), if_pos h3]
        exact ⟨_, _, _, _, rfl, cnT h8⟩
      · rw [if_neg (show ¬ 0 ≤ gB_P (NB s m.1 0 0 0 0) t.toNatClampNeg from h3), if_neg h3, n1]
        exact ⟨_, _, _, _, rfl, cnT h8⟩
  · rw [if_neg h1, if_neg (fun q => h1 ((am_0 _).mp q))]
    by_cases h0 : 0 ≤ gM_L m t.toNatClampNeg
    · rw [if_pos (show 0 ≤ gB_L (NB s m.1 0 0 0 0) t.toNatClampNeg from h0), if_pos h0]
      by_cases h2 : f_X1_shortAmount (gM_P m t.toNatClampNeg) = 0
      · rw [if_pos ((am_4 _).mpr h2)]
        refine ⟨_, _, _, _, if_pos h2, cnK h8⟩
      · rw [if_neg (fun q => h2 ((am_4 _).mp q))]
        by_cases h3 : 0 ≤ gM_P m t.toNatClampNeg
        · rw [if_pos h3]
          exact ⟨_, _, _, _, (if_neg h2).trans (if_pos h3), cnKT h8⟩
        · rw [if_neg h3, ← n1]
          exact ⟨_, _, _, _, (if_neg h2).trans (if_neg h3), cnKT h8⟩
    · rw [if_neg (show ¬ 0 ≤ gB_L (NB s m.1 0 0 0 0) t.toNatClampNeg from h0), if_neg h0]
      by_cases h2 : f_X1_shortAmount (gM_P m t.toNatClampNeg) = 0
      · rw [if_pos ((am_4 _).mpr h2), ← n2]
        exact ⟨_, _, _, _, if_pos h2, cnK h8⟩
      · rw [if_neg (fun q => h2 ((am_4 _).mp q))]
        by_cases h3 : 0 ≤ gM_P m t.toNatClampNeg
        · rw [if_pos h3, ← n2]
          exact ⟨_, _, _, _, (if_neg h2).trans (if_pos h3), cnKT h8⟩
        · rw [if_neg h3, ← n1, ← n2]
          exact ⟨_, _, _, _, (if_neg h2).trans (if_neg h3), cnKT h8⟩
/-- a trade, on threads -/
def trC (c : Cor) (t u : Nat) : Cor := ((vp_updL (vp_updL c.1.1 t (c.1.1 u)) u (c.1.1 t), upd (upd c.1.2.1 t (c.1.2.1 u)) u (c.1.2.1 t), upd (upd c.1.2.2.1 t (c.1.2.2.1 u)) u (c.1.2.2.1 t), vp_updL (vp_updL c.1.2.2.2.1 t (c.1.2.2.2.1 u)) u (c.1.2.2.2.1 t), vp_updL (vp_updL c.1.2.2.2.2.1 t (c.1.2.2.2.2.1 u)) u (c.1.2.2.2.2.1 t), vp_updL (vp_updL c.1.2.2.2.2.2 t (c.1.2.2.2.2.2 u)) u (c.1.2.2.2.2.2 t)), c.2)
theorem NB_io (s : SB) (c : Cor) (a b d e : Int32) (x y : Nat → Int64) : pB_HI (pB_LO (NB s c a b d e) x) y = NB s ((c.1.1, c.1.2.1, c.1.2.2.1, c.1.2.2.2.1, x, y), c.2) a b d e := rfl
theorem v_trade (s : SB) (c : Cor) (t u : Int32) (ht : vp_in t 8) (hu : vp_in u 8) : MvOK s c (f_X2_trade (NB s c 0 0 0 0) t u) (trC c t.toNatClampNeg u.toNatClampNeg) := by
  unfold f_X2_trade
  dsimp only
  rw [chL, chP, chK, chT, NB_io, chL, chP, chK, chT, NB_io]
  refine ⟨_, _, _, _, rfl, ?_⟩
  have h8 := in8 ht
  have h9 := in8 hu
  simp only [Int32.zero_add]
  exact ⟨(ct_L2 h8 h9).symm, (ct_N2 h8 h9).symm, (ct_N2 h8 h9).symm, (ct_L2 h8 h9).symm⟩
theorem v_perform (s : SB) (c : Cor) (m : SM) (hc : m.1 = c) (n t u : Int32) (h0 : ¬ n < 0) (h1 : n ≤ 15) (ht : vp_in t 8) (hu : n = 1 ∨ n = 2 ∨ n = 7 ∨ n = 9 ∨ n = 11 → vp_in u 8) (hn : numC c) : MvOK s c (f_X2_perform (NB s c 0 0 0 0) n t u) (f_X3_does m n t u).1 := by
  unfold f_X2_perform f_X3_does
  dsimp only
  by_cases c0 : n = 0
  · rw [if_pos c0, if_pos c0]; exact v_flip s c m hc t ht
  rw [if_neg c0, if_neg c0]
  by_cases c1 : n = 1
  · rw [if_pos c1, if_pos c1]; exact v_stretch s c m hc t u ht
  rw [if_neg c1, if_neg c1]
  by_cases c2 : n = 2
  · rw [if_pos c2, if_pos c2]; exact v_ease s c m hc t u ht
  rw [if_neg c2, if_neg c2]
  by_cases c3 : n = 3
  · rw [if_pos c3, if_pos c3, c3]
    by_cases d1 : 0 ≤ c.1.1 t.toNatClampNeg <;> by_cases d2 : 0 ≤ c.1.2.1 t.toNatClampNeg
    · rw [if_pos (show 0 ≤ gB_L (NB s c 0 0 0 0) t.toNatClampNeg from d1), if_pos (show 0 ≤ gB_P (NB s c 0 0 0 0) t.toNatClampNeg from d2)]
      exact v_down s c m hc t ht 0 0 ⟨fun _ => d1, fun _ => rfl⟩ ⟨fun _ => d2, fun _ => rfl⟩
    · rw [if_pos (show 0 ≤ gB_L (NB s c 0 0 0 0) t.toNatClampNeg from d1), if_neg (show ¬ 0 ≤ gB_P (NB s c 0 0 0 0) t.toNatClampNeg from d2)]
      exact v_down s c m hc t ht 0 1 ⟨fun _ => d1, fun _ => rfl⟩ ⟨fun q => absurd q (by decide), fun q => absurd q d2⟩
    · rw [if_neg (show ¬ 0 ≤ gB_L (NB s c 0 0 0 0) t.toNatClampNeg from d1), if_pos (show 0 ≤ gB_P (NB s c 0 0 0 0) t.toNatClampNeg from d2)]
      exact v_down s c m hc t ht 1 0 ⟨fun q => absurd q (by decide), fun q => absurd q d1⟩ ⟨fun _ => d2, fun _ => rfl⟩
    · rw [if_neg (show ¬ 0 ≤ gB_L (NB s c 0 0 0 0) t.toNatClampNeg from d1), if_neg (show ¬ 0 ≤ gB_P (NB s c 0 0 0 0) t.toNatClampNeg from d2)]
      exact v_down s c m hc t ht 1 1 ⟨fun q => absurd q (by decide), fun q => absurd q d1⟩ ⟨fun q => absurd q (by decide), fun q => absurd q d2⟩
  rw [if_neg c3, if_neg c3]
  by_cases c4 : n = 4
  · rw [if_pos c4, if_pos c4, c4]
    by_cases d1 : c.1.1 t.toNatClampNeg < 0 <;> by_cases d2 : c.1.2.1 t.toNatClampNeg < 0
    · rw [if_pos (show gB_L (NB s c 0 0 0 0) t.toNatClampNeg < 0 from d1), if_pos (show gB_P (NB s c 0 0 0 0) t.toNatClampNeg < 0 from d2)]
      exact v_up s c m hc t ht 0 0 ⟨fun _ => d1, fun _ => rfl⟩ ⟨fun _ => d2, fun _ => rfl⟩
    · rw [if_pos (show gB_L (NB s c 0 0 0 0) t.toNatClampNeg < 0 from d1), if_neg (show ¬ gB_P (NB s c 0 0 0 0) t.toNatClampNeg < 0 from d2)]
      exact v_up s c m hc t ht 0 1 ⟨fun _ => d1, fun _ => rfl⟩ ⟨fun q => absurd q (by decide), fun q => absurd q d2⟩
    · rw [if_neg (show ¬ gB_L (NB s c 0 0 0 0) t.toNatClampNeg < 0 from d1), if_pos (show gB_P (NB s c 0 0 0 0) t.toNatClampNeg < 0 from d2)]
      exact v_up s c m hc t ht 1 0 ⟨fun q => absurd q (by decide), fun q => absurd q d1⟩ ⟨fun _ => d2, fun _ => rfl⟩
    · rw [if_neg (show ¬ gB_L (NB s c 0 0 0 0) t.toNatClampNeg < 0 from d1), if_neg (show ¬ gB_P (NB s c 0 0 0 0) t.toNatClampNeg < 0 from d2)]
      exact v_up s c m hc t ht 1 1 ⟨fun q => absurd q (by decide), fun q => absurd q d1⟩ ⟨fun q => absurd q (by decide), fun q => absurd q d2⟩
  rw [if_neg c4, if_neg c4]
  by_cases c5 : n = 5
  · rw [if_pos c5, if_pos c5, c5]; exact v_near s c m hc t ht
  rw [if_neg c5, if_neg c5]
  by_cases c6 : n = 6
  · rw [if_pos c6, if_pos c6]; exact v_lean s c m hc t
  rw [if_neg c6, if_neg c6]
  by_cases c7 : n = 7
  · rw [if_pos c7, if_pos c7]; exact v_mirror s c m hc t u ht
  rw [if_neg c7, if_neg c7]
  by_cases c8 : n = 8
  · rw [if_pos c8, if_pos c8]; subst hc; exact v_hold s m.1 t ht
  rw [if_neg c8, if_neg c8]
  by_cases c9 : n = 9
  · rw [if_pos c9, if_pos c9]; exact v_stops s c m hc t u
  rw [if_neg c9, if_neg c9]
  by_cases c10 : n = 10
  · rw [if_pos c10, if_pos c10]; exact v_gather s c m hc t
  rw [if_neg c10, if_neg c10]
  by_cases c11 : n = 11
  · rw [if_pos c11, if_pos c11]; subst hc; exact v_trade s m.1 t u ht (hu (Or.inr (Or.inr (Or.inr (Or.inr c11)))))
  rw [if_neg c11, if_neg c11]
  by_cases c12 : n = 12
  · rw [if_pos c12, if_pos c12]; exact v_climb s c m hc t ht
  rw [if_neg c12, if_neg c12]
  by_cases c13 : n = 13
  · rw [if_pos c13, if_pos c13]; subst hc; exact v_halve s m.1 t ht
  rw [if_neg c13, if_neg c13]
  by_cases c14 : n = 14
  · rw [if_pos c14, if_pos c14]; subst hc; exact v_twice s m.1 t ht (hn.1 _)
  rw [if_neg c14, if_neg c14]
  have c15 : n = 15 := by
    obtain ⟨j, hj, rfl⟩ := nI_of2 (n := 15) (by decide) h0 h1
    have k : ∀ i, i < 15 → j ≠ i := fun i hi e => by
      subst e
      match j, hi with
      | 0, _ => exact c0 rfl
      | 1, _ => exact c1 rfl
      | 2, _ => exact c2 rfl
      | 3, _ => exact c3 rfl
      | 4, _ => exact c4 rfl
      | 5, _ => exact c5 rfl
      | 6, _ => exact c6 rfl
      | 7, _ => exact c7 rfl
      | 8, _ => exact c8 rfl
      | 9, _ => exact c9 rfl
      | 10, _ => exact c10 rfl
      | 11, _ => exact c11 rfl
      | 12, _ => exact c12 rfl
      | 13, _ => exact c13 rfl
      | 14, _ => exact c14 rfl
    have e : j = 15 := by
      rcases Nat.lt_or_ge j 15 with q | q
      · exact absurd rfl (k j q)
      · omega
    rw [e]
    rfl
  rw [if_pos c15]
  subst hc
  exact v_give s m.1 t ht
