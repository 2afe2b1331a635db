theorem x_str (s : SB) (m : SM) (h : gB_Z s = gM_Z m) (t : Int32) : f_X2_refusalOfStringing s t = if f_X3_isThread t = 0 then 1 else if gM_Z m t.toNatClampNeg = 0 then 7 else 0 := by
  unfold f_X2_refusalOfStringing
  dsimp only
  rw [x_thr s m h]
  unfold f_X3_lack
  by_cases c1 : f_X3_isThread t = 0
  · rw [if_pos c1, if_pos c1]; decide
  · rw [if_neg c1, if_neg c1]
    by_cases c2 : gM_Z m t.toNatClampNeg = 0
    · rw [if_pos c2, if_pos c2]; decide
    · rw [if_neg c2, if_neg c2]; decide
theorem q_string {s : SB} {m : SM} (h : RR s m) (t : Int32) : (f_X2_string s t).1 = (f_X3_string m t).1 ∧ RR (f_X2_string s t).2 (f_X3_string m t).2 := by
  obtain ⟨h1, h2, h3, h4, h5, h6, h7⟩ := h
  unfold f_X2_string f_X3_string
  dsimp only
  rw [x_str s m h2]
  by_cases c1 : f_X3_isThread t = 0
  · rw [if_pos c1, if_pos c1, if_neg (by decide)]
    exact ⟨rfl, h1, h2, rfl, h4, h5, h6, h7⟩
  · rw [if_neg c1, if_neg c1]
    by_cases c2 : gM_Z m t.toNatClampNeg = 0
    · rw [if_pos c2, if_pos c2, if_neg (by decide)]
      exact ⟨rfl, h1, h2, rfl, h4, h5, h6, h7⟩
    · rw [if_neg c2, if_neg c2, if_pos rfl]
      have e1 : (f_X3_endless 52 ||| f_X3_sign 52) = -4503599627370496 := by decide
      have e2 : f_X3_endless 52 = 9218868437227405312 := by decide
      refine ⟨rfl, ?_, ?_, rfl, h4, h5, ?_, nz_up h7 rfl⟩
      · unfold f_X2_stringAnew f_X3_begin
        rw [e1, e2]
        show (((vp_updL s.1.1.1 _ _, upd s.1.1.2.1 _ _, upd s.1.1.2.2.1 _ _, vp_updL s.1.1.2.2.2.1 _ _, vp_updL s.1.1.2.2.2.2.1 _ _, vp_updL s.1.1.2.2.2.2.2 _ _), s.1.2) : Cor) = _
        rw [h1]
      · show upd (gB_Z s) _ _ = upd (gM_Z m) _ _
        rw [h2]
      · exact ⟨okU h6.1 (show okL 0 by unfold okL; decide), okU h6.2.1 (show okL (-4503599627370496) by unfold okL; decide), okU h6.2.2.1 (show okL 9218868437227405312 by unfold okL; decide), h6.2.2.2⟩
theorem is_n23 (p : Int32) : f_X3_isNumber (f_X3_thin p) 23 = 0 ↔ 2139095040 < f_X1_shortAmount p := by
  obtain ⟨m, σ, hm, hσ, rfl, hn⟩ := spi p
  have e : f_X3_amount (lN (m + σ)) 23 = lN m := m_amt ok23 hm hσ
  have e2 : f_X3_endless 23 = lN 2139095040 := by decide
  unfold f_X3_isNumber
  rw [t23 hm hσ, e, e2]
  unfold f_X1_shortAmount
  rw [pk_andN (show m + σ < 2 ^ 32 by omega) 31 (by decide), show (m + σ) % 2 ^ 31 = m by omega]
  have e3 : (2139095040 : Int32) < nI m ↔ 2139095040 < m := nI_ltI (a := 2139095040) (by decide) hm
  rw [e3]
  by_cases c : 2139095040 < m
  · rw [if_pos ((pk_lLT (by decide) (by omega)).mpr c)]
    exact ⟨fun _ => c, fun _ => rfl⟩
  · rw [if_neg (fun q => c ((pk_lLT (by decide) (by omega)).mp q))]
    exact ⟨fun q => absurd q (by decide), fun q => absurd q c⟩
theorem is_n52 (b : Int64) : f_X3_isNumber b 52 = 0 ↔ 9218868437227405312 < f_X1_amount b := by
  have e2 : f_X3_endless 52 = 9218868437227405312 := by decide
  unfold f_X3_isNumber
  rw [e2]
  have e3 : f_X3_amount b 52 = f_X1_amount b := rfl
  rw [e3]
  by_cases c : 9218868437227405312 < f_X1_amount b
  · rw [if_pos c]
    exact ⟨fun _ => c, fun _ => rfl⟩
  · rw [if_neg c]
    exact ⟨fun q => absurd q (by decide), fun q => absurd q c⟩
theorem q_set {s : SB} {m : SM} (h : RR s m) (t k : Int32) (b : Int64) : (f_X2_set s t k b).1 = (f_X3_set m t k b).1 ∧ RR (f_X2_set s t k b).2 (f_X3_set m t k b).2 := by
  obtain ⟨h1, h2, h3, h4, h5, h6, h7⟩ := h
  have hLk := lk_le m t
  unfold f_X2_set f_X3_set f_X2_refusalOfSetting f_X2_refusalOfPart
  dsimp only
  rw [x_thr s m h2]
  by_cases c1 : k < 0
  · rw [if_pos c1, if_pos c1, if_neg (show ¬ (5 : Int32) = 0 by decide), if_neg (show ¬ (5 : Int32) = 0 by decide)]
    exact ⟨rfl, h1, h2, rfl, h4, h5, h6, h7⟩
  · rw [if_neg c1, if_neg c1]
    by_cases c2 : k ≤ 5
    · rw [if_pos c2, if_pos c2]
      by_cases c3 : f_X3_lack m t = 0
      · have c4 := hLk.mpr c3
        rw [if_pos c3, if_pos c3]
        obtain ⟨j, hj, rfl⟩ := nI_of2 (n := 5) (by decide) c1 c2
        have hcore : ∀ (x : Nat → Int64), (((x, s.1.1.2), s.1.2) : Cor) = ((x, m.1.1.2), m.1.2) := fun x => by rw [h1]
        match j, hj with
        | 0, _ =>
          have d0 : f_X3_isReal (nI 0) = 1 := by decide
          have d1 : f_X2_isNumber (nI 0) b = if 9218868437227405312 < f_X1_amount b then 0 else 1 := rfl
          rw [d0, d1, if_neg (show ¬ (1 : Int32) = 0 by decide), if_neg (show ¬ nI 0 = 1 by decide)]
          by_cases c5 : 9218868437227405312 < f_X1_amount b
          · rw [if_pos c5, if_pos ((is_n52 b).mpr c5), if_pos rfl, if_neg (show ¬ (6 : Int32) = 0 by decide)]
            exact ⟨rfl, h1, h2, rfl, h4, h5, h6, h7⟩
          · rw [if_neg c5, if_neg (fun q => c5 ((is_n52 b).mp q)), if_neg (show ¬ (1 : Int32) = 0 by decide), if_pos rfl, if_pos c4, if_pos (show nI 0 = 0 by decide)]
            refine ⟨rfl, ?_, h2, c3.symm, h4, h5, ⟨okU h6.1 (Int64.not_lt.mp c5), h6.2⟩, h7⟩
            show ((vp_updL s.1.1.1 _ _, s.1.1.2), s.1.2) = ((vp_updL m.1.1.1 _ _, m.1.1.2), m.1.2)
            rw [h1]
        | 1, _ =>
          have d0 : f_X3_isReal (nI 1) = 1 := by decide
          have d1 : f_X2_isNumber (nI 1) b = if 2139095040 < f_X1_shortAmount (Int64.toInt32 b) then 0 else 1 := rfl
          rw [d0, d1, if_neg (show ¬ (1 : Int32) = 0 by decide), if_pos (show nI 1 = 1 by decide)]
          by_cases c5 : 2139095040 < f_X1_shortAmount (Int64.toInt32 b)
          · rw [if_pos c5, if_pos ((is_n23 _).mpr c5), if_pos rfl, if_neg (show ¬ (6 : Int32) = 0 by decide)]
            exact ⟨rfl, h1, h2, rfl, h4, h5, h6, h7⟩
          · rw [if_neg c5, if_neg (fun q => c5 ((is_n23 _).mp q)), if_neg (show ¬ (1 : Int32) = 0 by decide), if_pos rfl, if_pos c4]
            refine ⟨rfl, ?_, h2, c3.symm, h4, h5, h6, h7⟩
            show ((s.1.1.1, upd s.1.1.2.1 _ _, s.1.1.2.2), s.1.2) = ((m.1.1.1, upd m.1.1.2.1 _ _, m.1.1.2.2), m.1.2)
            rw [h1]
        | 2, _ =>
          have d0 : f_X3_isReal (nI 2) = 0 := by decide
          have d1 : f_X2_isNumber (nI 2) b = 1 := rfl
          rw [d0, d1, if_neg (show ¬ (1 : Int32) = 0 by decide), if_pos rfl, if_pos rfl, if_pos c4]
          refine ⟨rfl, ?_, h2, c3.symm, h4, h5, h6, h7⟩
          show ((s.1.1.1, s.1.1.2.1, upd s.1.1.2.2.1 _ _, s.1.1.2.2.2), s.1.2) = ((m.1.1.1, m.1.1.2.1, upd m.1.1.2.2.1 _ _, m.1.1.2.2.2), m.1.2)
          rw [h1]
        | 3, _ =>
          have d0 : f_X3_isReal (nI 3) = 0 := by decide
          have d1 : f_X2_isNumber (nI 3) b = 1 := rfl
          rw [d0, d1, if_neg (show ¬ (1 : Int32) = 0 by decide), if_pos rfl, if_pos rfl, if_pos c4]
          refine ⟨rfl, ?_, h2, c3.symm, h4, h5, h6, h7⟩
          show ((s.1.1.1, s.1.1.2.1, s.1.1.2.2.1, vp_updL s.1.1.2.2.2.1 _ _, s.1.1.2.2.2.2), s.1.2) = ((m.1.1.1, m.1.1.2.1, m.1.1.2.2.1, vp_updL m.1.1.2.2.2.1 _ _, m.1.1.2.2.2.2), m.1.2)
          rw [h1]
        | 4, _ =>
          have d0 : f_X3_isReal (nI 4) = 1 := by decide
          have d1 : f_X2_isNumber (nI 4) b = if 9218868437227405312 < f_X1_amount b then 0 else 1 := rfl
          rw [d0, d1, if_neg (show ¬ (1 : Int32) = 0 by decide), if_neg (show ¬ nI 4 = 1 by decide)]
          by_cases c5 : 9218868437227405312 < f_X1_amount b
          · rw [if_pos c5, if_pos ((is_n52 b).mpr c5), if_pos rfl, if_neg (show ¬ (6 : Int32) = 0 by decide)]
            exact ⟨rfl, h1, h2, rfl, h4, h5, h6, h7⟩
          · rw [if_neg c5, if_neg (fun q => c5 ((is_n52 b).mp q)), if_neg (show ¬ (1 : Int32) = 0 by decide), if_pos rfl, if_pos c4]
            refine ⟨rfl, ?_, h2, c3.symm, h4, h5, ⟨h6.1, okU h6.2.1 (Int64.not_lt.mp c5), h6.2.2⟩, h7⟩
            show ((s.1.1.1, s.1.1.2.1, s.1.1.2.2.1, s.1.1.2.2.2.1, vp_updL s.1.1.2.2.2.2.1 _ _, s.1.1.2.2.2.2.2), s.1.2) = ((m.1.1.1, m.1.1.2.1, m.1.1.2.2.1, m.1.1.2.2.2.1, vp_updL m.1.1.2.2.2.2.1 _ _, m.1.1.2.2.2.2.2), m.1.2)
            rw [h1]
        | 5, _ =>
          have d0 : f_X3_isReal (nI 5) = 1 := by decide
          have d1 : f_X2_isNumber (nI 5) b = if 9218868437227405312 < f_X1_amount b then 0 else 1 := rfl
          rw [d0, d1, if_neg (show ¬ (1 : Int32) = 0 by decide), if_neg (show ¬ nI 5 = 1 by decide)]
          by_cases c5 : 9218868437227405312 < f_X1_amount b
          · rw [if_pos c5, if_pos ((is_n52 b).mpr c5), if_pos rfl, if_neg (show ¬ (6 : Int32) = 0 by decide)]
            exact ⟨rfl, h1, h2, rfl, h4, h5, h6, h7⟩
          · rw [if_neg c5, if_neg (fun q => c5 ((is_n52 b).mp q)), if_neg (show ¬ (1 : Int32) = 0 by decide), if_pos rfl, if_pos c4]
            refine ⟨rfl, ?_, h2, c3.symm, h4, h5, ⟨h6.1, h6.2.1, okU h6.2.2.1 (Int64.not_lt.mp c5), h6.2.2.2⟩, h7⟩
            show ((s.1.1.1, s.1.1.2.1, s.1.1.2.2.1, s.1.1.2.2.2.1, s.1.1.2.2.2.2.1, vp_updL s.1.1.2.2.2.2.2 _ _), s.1.2) = ((m.1.1.1, m.1.1.2.1, m.1.1.2.2.1, m.1.1.2.2.2.1, m.1.1.2.2.2.2.1, vp_updL m.1.1.2.2.2.2.2 _ _), m.1.2)
            rw [h1]
        | j + 6, hj => exact absurd hj (by omega)
      · have c4 : ¬ f_X3_lack m t ≤ 0 := fun q => c3 (hLk.mp q)
        rw [if_neg c3, if_neg c3, if_neg c3, if_neg c4]
        exact ⟨rfl, h1, h2, rfl, h4, h5, h6, h7⟩
    · rw [if_neg c2, if_neg c2, if_neg (show ¬ (5 : Int32) = 0 by decide), if_neg (show ¬ (5 : Int32) = 0 by decide)]
      exact ⟨rfl, h1, h2, rfl, h4, h5, h6, h7⟩
theorem q_get {s : SB} {m : SM} (h : RR s m) (t k : Int32) : (f_X2_get s t k).1 = (f_X3_get m t k).1 ∧ RR (f_X2_get s t k).2 (f_X3_get m t k).2 := by
  obtain ⟨h1, h2, h3, h4, h5, h6, h7⟩ := h
  have hLk := lk_le m t
  unfold f_X2_get f_X3_get f_X2_refusalOfPart
  try dsimp only
  rw [x_thr s m h2]
  by_cases c1 : k < 0
  · rw [if_pos c1, if_pos c1, if_neg (show ¬ (5 : Int32) = 0 by decide)]
    exact ⟨rfl, h1, h2, rfl, h4, h5, h6, h7⟩
  · rw [if_neg c1, if_neg c1]
    by_cases c2 : k ≤ 5
    · rw [if_pos c2, if_pos c2]
      by_cases c3 : f_X3_lack m t = 0
      · have c4 := hLk.mpr c3
        rw [if_pos c3, if_pos c4]
        have hrr : RR (pB_re s (f_X3_lack m t)) (pM_re m (f_X3_lack m t)) := ⟨h1, h2, rfl, h4, h5, h6, h7⟩
        obtain ⟨j, hj, rfl⟩ := nI_of2 (n := 5) (by decide) c1 c2
        match j, hj with
        | 0, _ => exact ⟨show s.1.1.1 _ = m.1.1.1 _ by rw [h1], hrr⟩
        | 1, _ => exact ⟨show Int32.toInt64 (s.1.1.2.1 _) = Int32.toInt64 (m.1.1.2.1 _) by rw [h1], hrr⟩
        | 2, _ => exact ⟨show Int32.toInt64 (s.1.1.2.2.1 _) = Int32.toInt64 (m.1.1.2.2.1 _) by rw [h1], hrr⟩
        | 3, _ => exact ⟨show s.1.1.2.2.2.1 _ = m.1.1.2.2.2.1 _ by rw [h1], hrr⟩
        | 4, _ => exact ⟨show s.1.1.2.2.2.2.1 _ = m.1.1.2.2.2.2.1 _ by rw [h1], hrr⟩
        | 5, _ => exact ⟨show s.1.1.2.2.2.2.2 _ = m.1.1.2.2.2.2.2 _ by rw [h1], hrr⟩
        | j + 6, hj => exact absurd hj (by omega)
      · have c4 : ¬ f_X3_lack m t ≤ 0 := fun q => c3 (hLk.mp q)
        rw [if_neg c3, if_neg c4]
        exact ⟨rfl, h1, h2, rfl, h4, h5, h6, h7⟩
    · rw [if_neg c2, if_neg c2, if_neg (show ¬ (5 : Int32) = 0 by decide)]
      exact ⟨rfl, h1, h2, rfl, h4, h5, h6, h7⟩
