theorem chA (s : SB) (c : Cor) (t : Int32) (b g : Int64) : f_X2_changeAmounts (NB s c 0 0 0 0) t b g = NB s (uP (uL c t.toNatClampNeg (f_X1_withSign b (c.1.1 t.toNatClampNeg))) t.toNatClampNeg (f_X1_shortWithSign (Int64.toInt32 g) (c.1.2.1 t.toNatClampNeg))) (0 + neL (c.1.1 t.toNatClampNeg) (f_X1_withSign b (c.1.1 t.toNatClampNeg))) (0 + neI (c.1.2.1 t.toNatClampNeg) (f_X1_shortWithSign (Int64.toInt32 g) (c.1.2.1 t.toNatClampNeg))) 0 0 := by
  unfold f_X2_changeAmounts
  dsimp only
  rw [chL, chP]
  rfl
theorem v_amt {s : SB} {c : Cor} {t : Int32} {b g : Int64} {x : Int64} {p : Int32} (ht : vp_in t 8) (h1 : f_X1_withSign b (c.1.1 t.toNatClampNeg) = x) (h2 : f_X1_shortWithSign (Int64.toInt32 g) (c.1.2.1 t.toNatClampNeg) = p) : MvOK s c (f_X2_changeAmounts (NB s c 0 0 0 0) t b g) (uP (uL c t.toNatClampNeg x) t.toNatClampNeg p) := by
  rw [chA, h1, h2]
  exact ⟨_, _, _, _, rfl, cn2 (in8 ht)⟩
theorem lw_eq (S : SB) (t z y : Int32) : f_X2_letToWhole S t z y = f_X2_changeAmounts S t (if z = 0 then f_X1_wholeBelow (f_X1_amount (gB_L S t.toNatClampNeg)) 52 1023 else f_X1_wholeAbove (f_X1_amount (gB_L S t.toNatClampNeg)) 52 1023) (if y = 0 then f_X1_wholeBelow (Int32.toInt64 (f_X1_shortAmount (gB_P S t.toNatClampNeg))) 23 127 else f_X1_wholeAbove (Int32.toInt64 (f_X1_shortAmount (gB_P S t.toNatClampNeg))) 23 127) := by
  unfold f_X2_letToWhole
  dsimp only
  by_cases h1 : z = 0 <;> by_cases h2 : y = 0 <;> simp only [h1, h2, if_true, if_false]
theorem v_down (s : SB) (c : Cor) (m : SM) (hc : m.1 = c) (t : Int32) (ht : vp_in t 8) (z y : Int32) (hz : z = 0 ↔ 0 ≤ c.1.1 t.toNatClampNeg) (hy : y = 0 ↔ 0 ≤ c.1.2.1 t.toNatClampNeg) : MvOK s c (f_X2_letToWhole (NB s c 0 0 0 0) t z y) (f_X3_wholes m 3 t).1 := by
  subst hc
  rw [lw_eq]
  have e : (f_X3_wholes m 3 t).1 = uP (uL m.1 t.toNatClampNeg (f_X3_down (gM_L m t.toNatClampNeg) 52)) t.toNatClampNeg (Int64.toInt32 (f_X3_down (f_X3_thin (gM_P m t.toNatClampNeg)) 23)) := rfl
  rw [e]
  refine v_amt ht ?_ ?_
  · rw [← e_down52]
    congr 1
    by_cases h : z = 0
    · rw [if_pos h, if_neg (Int64.not_lt.mpr (hz.mp h))]; rfl
    · rw [if_neg h, if_pos (Int64.not_le.mp (fun q => h (hz.mpr q)))]; rfl
  · rw [← e_down23]
    congr 2
    by_cases h : y = 0
    · rw [if_pos h, if_neg (Int32.not_lt.mpr (hy.mp h))]; rfl
    · rw [if_neg h, if_pos (Int32.not_le.mp (fun q => h (hy.mpr q)))]; rfl
theorem v_up (s : SB) (c : Cor) (m : SM) (hc : m.1 = c) (t : Int32) (ht : vp_in t 8) (z y : Int32) (hz : z = 0 ↔ c.1.1 t.toNatClampNeg < 0) (hy : y = 0 ↔ c.1.2.1 t.toNatClampNeg < 0) : MvOK s c (f_X2_letToWhole (NB s c 0 0 0 0) t z y) (f_X3_wholes m 4 t).1 := by
  subst hc
  rw [lw_eq]
  have e : (f_X3_wholes m 4 t).1 = uP (uL m.1 t.toNatClampNeg (f_X3_up (gM_L m t.toNatClampNeg) 52)) t.toNatClampNeg (Int64.toInt32 (f_X3_up (f_X3_thin (gM_P m t.toNatClampNeg)) 23)) := rfl
  rw [e]
  refine v_amt ht ?_ ?_
  · rw [← e_up52]
    congr 1
    by_cases h : z = 0
    · rw [if_pos h, if_neg (Int64.not_le.mpr (hz.mp h))]; rfl
    · rw [if_neg h, if_pos (Int64.not_lt.mp (fun q => h (hz.mpr q)))]; rfl
  · rw [← e_up23]
    congr 2
    by_cases h : y = 0
    · rw [if_pos h, if_neg (Int32.not_le.mpr (hy.mp h))]; rfl
    · rw [if_neg h, if_pos (Int32.not_lt.mp (fun q => h (hy.mpr q)))]; rfl
theorem v_near (s : SB) (c : Cor) (m : SM) (hc : m.1 = c) (t : Int32) (ht : vp_in t 8) : MvOK s c (f_X2_letNear (NB s c 0 0 0 0) t) (f_X3_wholes m 5 t).1 := by
  subst hc
  have e : (f_X3_wholes m 5 t).1 = uP (uL m.1 t.toNatClampNeg (f_X3_near (gM_L m t.toNatClampNeg) 52)) t.toNatClampNeg (Int64.toInt32 (f_X3_near (f_X3_thin (gM_P m t.toNatClampNeg)) 23)) := rfl
  rw [e]
  exact v_amt ht (e_near52 _) (e_near23 _)
theorem v_halve (s : SB) (c : Cor) (t : Int32) (ht : vp_in t 8) : MvOK s c (f_X2_halve (NB s c 0 0 0 0) t) (uP (uL c t.toNatClampNeg (f_X3_half (c.1.1 t.toNatClampNeg) 52)) t.toNatClampNeg (Int64.toInt32 (f_X3_half (f_X3_thin (c.1.2.1 t.toNatClampNeg)) 23))) := v_amt ht (e_half52 _) (e_half23 _)
theorem v_twice (s : SB) (c : Cor) (t : Int32) (ht : vp_in t 8) (hn : okL (c.1.1 t.toNatClampNeg)) : MvOK s c (f_X2_makeTwice (NB s c 0 0 0 0) t) (uP (uL c t.toNatClampNeg (f_X3_twice (c.1.1 t.toNatClampNeg) 52)) t.toNatClampNeg (Int64.toInt32 (f_X3_twice (f_X3_thin (c.1.2.1 t.toNatClampNeg)) 23))) := v_amt ht (e_twice52 _ hn) (e_twice23 _)
theorem v_mirror (s : SB) (c : Cor) (m : SM) (hc : m.1 = c) (t u : Int32) (ht : vp_in t 8) : MvOK s c (f_X2_mirror (NB s c 0 0 0 0) t u) (f_X3_mirror m t u).1 := by
  subst hc
  have e : (f_X3_mirror m t u).1 = uP (uL m.1 t.toNatClampNeg (f_X1_withSign (f_X1_amount (gM_L m t.toNatClampNeg)) (gM_L m u.toNatClampNeg))) t.toNatClampNeg (f_X1_shortWithSign (f_X1_shortAmount (gM_P m t.toNatClampNeg)) (gM_P m u.toNatClampNeg)) := rfl
  rw [e]
  unfold f_X2_mirror
  dsimp only
  rw [chL, chP]
  exact ⟨_, _, _, _, rfl, cn2 (in8 ht)⟩
theorem v_hold (s : SB) (c : Cor) (t : Int32) (ht : vp_in t 8) : MvOK s c (f_X2_hold (NB s c 0 0 0 0) t) (uL c t.toNatClampNeg (f_X1_lesser (f_X1_greater (c.1.1 t.toNatClampNeg) (c.1.2.2.2.2.1 t.toNatClampNeg)) (c.1.2.2.2.2.2 t.toNatClampNeg))) := by
  unfold f_X2_hold
  dsimp only
  rw [chL]
  exact ⟨_, _, _, _, rfl, cn1 (in8 ht)⟩
theorem v_stops (s : SB) (c : Cor) (m : SM) (hc : m.1 = c) (t u : Int32) : MvOK s c (f_X2_placeStops (NB s c 0 0 0 0) t u) (f_X3_stops m t u).1 := by
  subst hc
  exact ⟨0, 0, 0, 0, rfl, cn0 rfl rfl rfl rfl⟩
theorem th_id (p : Int32) : Int64.toInt32 (f_X3_thin p) = p := by
  obtain ⟨m, σ, hm, hσ, rfl, hn⟩ := spi p
  rw [t23 hm hσ, lN_i]
theorem th_0 (p : Int32) : f_X3_amount (f_X3_thin p) 23 = 0 ↔ f_X1_shortAmount p = 0 := by
  obtain ⟨m, σ, hm, hσ, rfl, hn⟩ := spi p
  have e : f_X3_amount (lN (m + σ)) 23 = lN m := m_amt ok23 hm hσ
  rw [t23 hm hσ, e]
  unfold f_X1_shortAmount
  rw [pk_andN (show m + σ < 2 ^ 32 by omega) 31 (by decide), show (m + σ) % 2 ^ 31 = m by omega]
  constructor
  · intro h
    have := (pk_lEQ (b := 0) (by omega) (by decide)).mp h
    rw [this]; rfl
  · intro h
    have := (nI_eq (b := 0) hm (by decide)).mp h
    rw [this]; rfl
theorem th_1 (p : Int32) : Int64.toInt32 ((f_X3_thin p &&& f_X3_sign 23) ||| f_X3_one 23) = f_X1_shortWithSign 1065353216 p := by
  obtain ⟨m, σ, hm, hσ, rfl, hn⟩ := spi p
  have e1 : f_X3_sign 23 = lN (2 ^ 31) := by decide
  have e2 : f_X3_one 23 = lN 1065353216 := by decide
  have e3 : f_X1_shortWithSign 1065353216 (nI (m + σ)) = nI (1065353216 + σ) := by
    have := w23 (x := 1065353216) (by decide) hm hσ
    exact this
  rw [t23 hm hσ, e1, e2, l_get (s := 31) hm hσ, Int64.or_comm, l_put (s := 31) (by decide) hσ, lN_i, e3]
theorem v_lean (s : SB) (c : Cor) (m : SM) (hc : m.1 = c) (t : Int32) : MvOK s c (f_X2_lean (NB s c 0 0 0 0) t) (f_X3_lean m t).1 := by
  subst hc
  have e : (f_X3_lean m t).1 = (f_X2_lean (NB s m.1 0 0 0 0) t).1 := by
    unfold f_X3_lean f_X2_lean
    dsimp only
    have e1 : f_X3_amount (gM_L m t.toNatClampNeg) 52 = f_X1_amount (gB_L (NB s m.1 0 0 0 0) t.toNatClampNeg) := rfl
    have e2 : (gM_L m t.toNatClampNeg &&& f_X3_sign 52) ||| f_X3_one 52 = f_X1_withSign 4607182418800017408 (gB_L (NB s m.1 0 0 0 0) t.toNatClampNeg) := by
      rw [Int64.or_comm]; rfl
    have e3 : gM_P m t.toNatClampNeg = gB_P (NB s m.1 0 0 0 0) t.toNatClampNeg := rfl
    rw [th_1, th_id, e1, e2, e3]
    by_cases h1 : f_X1_amount (gB_L (NB s m.1 0 0 0 0) t.toNatClampNeg) = 0 <;> by_cases h2 : f_X1_shortAmount (gB_P (NB s m.1 0 0 0 0) t.toNatClampNeg) = 0
    · rw [if_pos h1, if_pos h1, if_pos h2, if_pos ((th_0 _).mpr h2)]; rfl
    · rw [if_pos h1, if_pos h1, if_neg h2, if_neg (fun q => h2 ((th_0 _).mp q))]; rfl
    · rw [if_neg h1, if_neg h1, if_pos h2, if_pos ((th_0 _).mpr h2)]; rfl
    · rw [if_neg h1, if_neg h1, if_neg h2, if_neg (fun q => h2 ((th_0 _).mp q))]; rfl
  rw [e]
  have e4 : ∀ S : SB, (f_X2_lean S t).2 = S.2 ∧ (f_X2_lean S t).1.1 = S.1.1 := by
    intro S
    unfold f_X2_lean
    by_cases h1 : f_X1_amount (gB_L S t.toNatClampNeg) = 0 <;> by_cases h2 : f_X1_shortAmount (gB_P S t.toNatClampNeg) = 0 <;> simp only [h1, h2, if_true, if_false] <;> first | exact ⟨rfl, rfl⟩ | exact ⟨trivial, trivial⟩
  obtain ⟨e5, e6⟩ := e4 (NB s m.1 0 0 0 0)
  refine ⟨0, 0, 0, 0, ?_, ?_⟩
  · show _ = ((f_X2_lean (NB s m.1 0 0 0 0) t).1, (NB s m.1 0 0 0 0).2)
    rw [← e5]
  · have e7 : (f_X2_lean (NB s m.1 0 0 0 0) t).1.1 = m.1.1 := e6
    exact cn0 (by rw [e7]) (by rw [e7]) (by rw [e7]) (by rw [e7])
theorem v_gather (s : SB) (c : Cor) (m : SM) (hc : m.1 = c) (t : Int32) : MvOK s c (f_X2_gather (NB s c 0 0 0 0) t) (f_X3_gather m t).1 := by
  subst hc
  refine ⟨0, 0, 0, 0, ?_, ?_⟩
  · have e : (f_X3_gather m t).1 = (f_X2_gather (NB s m.1 0 0 0 0) t).1 := by
      unfold f_X2_gather
      rw [ab_i, ab_l, mx_i, mn_l]
      unfold f_X3_gather
      dsimp only
      have d1 : gB_K (NB s m.1 0 0 0 0) t.toNatClampNeg = gM_K m t.toNatClampNeg := rfl
      have d2 : gB_T (NB s m.1 0 0 0 0) t.toNatClampNeg = gM_T m t.toNatClampNeg := rfl
      have d3 : gB_co (NB s m.1 0 0 0 0) = gM_co m := rfl
      have d4 : gB_tu (NB s m.1 0 0 0 0) = gM_tu m := rfl
      rw [d1, d2, d3, d4]
      by_cases h1 : 0 ≤ gM_K m t.toNatClampNeg <;> by_cases h2 : 0 ≤ gM_T m t.toNatClampNeg <;> simp only [h1, h2, if_true, if_false]
      · by_cases h3 : gM_K m t.toNatClampNeg ≤ gM_co m <;> by_cases h4 : gM_tu m ≤ gM_T m t.toNatClampNeg <;> simp only [h3, h4, if_true, if_false] <;> rfl
      · by_cases h3 : gM_K m t.toNatClampNeg ≤ gM_co m <;> by_cases h4 : gM_tu m ≤ -gM_T m t.toNatClampNeg <;> simp only [h3, h4, if_true, if_false] <;> rfl
      · by_cases h3 : -gM_K m t.toNatClampNeg ≤ gM_co m <;> by_cases h4 : gM_tu m ≤ gM_T m t.toNatClampNeg <;> simp only [h3, h4, if_true, if_false] <;> rfl
      · by_cases h3 : -gM_K m t.toNatClampNeg ≤ gM_co m <;> by_cases h4 : gM_tu m ≤ -gM_T m t.toNatClampNeg <;> simp only [h3, h4, if_true, if_false] <;> rfl
    rw [e]
    rfl
  · have e : (f_X3_gather m t).1.1 = m.1.1 := by
      unfold f_X3_gather
      dsimp only
      repeat' (first | rfl | split)
    exact cn0 (by rw [e]) (by rw [e]) (by rw [e]) (by rw [e])
