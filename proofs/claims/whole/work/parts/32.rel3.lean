theorem lo_n {m : SM} {n t u : Int32} (h : f_X3_lackOf m n t u ≤ 0) : ¬ n < 0 ∧ n ≤ 15 := by
  unfold f_X3_lackOf at h
  by_cases c1 : n < 0
  · rw [if_pos c1] at h; exact absurd h (by decide)
  · rw [if_neg c1] at h
    by_cases c2 : n ≤ 15
    · exact ⟨c1, c2⟩
    · rw [if_neg c2] at h; exact absurd h (by decide)
theorem cl_ch (s : SB) : gB_CH (f_X2_clearChanges s) 1 = 0 ∧ gB_CH (f_X2_clearChanges s) 2 = 0 ∧ gB_CH (f_X2_clearChanges s) 3 = 0 ∧ gB_CH (f_X2_clearChanges s) 4 = 0 := by
  unfold f_X2_clearChanges
  rw [tn0, tn1, tn2, tn3, tn4]
  exact ⟨rfl, rfl, rfl, rfl⟩
theorem cl_eq (s : SB) : f_X2_clearChanges s = pB_CH s (gB_CH (f_X2_clearChanges s)) := rfl
theorem q_move {s : SB} {m : SM} (h : RR s m) (n t u : Int32) : (f_X2_move s n t u).1 = (f_X3_move m n t u).1 ∧ RR (f_X2_move s n t u).2 (f_X3_move m n t u).2 := by
  obtain ⟨h1, h2, h3, h4, h5, h6, h7⟩ := h
  unfold f_X2_move f_X3_move
  dsimp only
  have hx := x_mv s m h2 n t u
  rw [hx]
  by_cases c : f_X3_lackOf m n t u = 0
  · have c2 := (lo_le m n t u).mpr c
    rw [if_pos c, if_pos c2]
    obtain ⟨ht, hu⟩ := hm_of c2
    obtain ⟨hn0, hn1⟩ := lo_n c2
    obtain ⟨k1, k2, k3, k4⟩ := cl_ch (pB_re s (f_X3_lackOf m n t u))
    have e0 := cl_eq (pB_re s (f_X3_lackOf m n t u))
    rw [e0]
    generalize gB_CH (f_X2_clearChanges (pB_re s (f_X3_lackOf m n t u))) = ch at *
    generalize f_X3_lackOf m n t u = r at *
    obtain ⟨c', a, b, d, e, p1, p2, p3, p4, p5, p6, p7, p8⟩ := mv_both (pB_CH (pB_re s r) ch) (pM_re m r) h1 n t u hn0 hn1 ht hu h6
    have e2 := sd_does (wS (pM_re m r)) n t u
    rw [p1, mvA_eq, p4]
    generalize f_X3_does (wS (pM_re m r)) n t u = z at *
    obtain ⟨zc, zr⟩ := z
    have e3 : zr = (wS (pM_re m r)).2 := e2
    subst e3
    have e4 : zc = c' := p2
    subst e4
    rw [tn1, tn2, tn3, tn4]
    constructor
    · show ch 1 + a + (ch 2 + b) + (ch 3 + d) + (ch 4 + e) = 0 + (a + b + d + e)
      rw [k1, k2, k3, k4, Int32.zero_add, Int32.zero_add, Int32.zero_add, Int32.zero_add, Int32.zero_add]
    · exact ⟨rfl, h2, rfl, h4, h5, p3, h7⟩
  · rw [if_neg c, if_neg (fun q => c ((lo_le m n t u).mp q))]
    exact ⟨rfl, h1, h2, rfl, h4, h5, h6, h7⟩
/-! the order -/
theorem rk_inj {a b : Int64} (h : f_X1_rank a = f_X1_rank b) : a = b := by
  have hx : ∀ x : Int64, (x ^^^ 9223372036854775807) ^^^ 9223372036854775807 = x := fun x => by rw [Int64.xor_assoc, Int64.xor_self, Int64.xor_zero]
  have hs : ∀ x : Int64, ¬ 0 ≤ x → ¬ 0 ≤ x ^^^ 9223372036854775807 := by
    intro x hx0 hc
    obtain ⟨m, σ, hm, hσ, rfl, hn⟩ := spl x
    have hσ2 : σ = 2 ^ 63 := by
      rcases hσ with e | e
      · exact absurd (Int64.not_lt.mp (fun q => (hn.mp q) e)) hx0
      · exact e
    subst hσ2
    obtain ⟨k, hk, e⟩ := pk_lOf (Int64.not_lt.mpr hc)
    have e2 := congrArg (fun y => y.toBitVec.getLsbD 63) e
    have t1 : (lN (m + 2 ^ 63)).toBitVec.getLsbD 63 = true := by
      rw [wb_tb, BitVec.getLsbD_ofNat, tb_add hm]; simp
    have t2 : (9223372036854775807 : Int64).toBitVec.getLsbD 63 = false := by decide
    have t3 : (lN k).toBitVec.getLsbD 63 = false := by
      rw [wb_tb, BitVec.getLsbD_ofNat, tb_hi hk (Nat.le_refl _)]; simp
    simp only [Int64.toBitVec_xor, BitVec.getLsbD_xor, t1, t2, t3] at e2
    exact absurd e2 (by decide)
  unfold f_X1_rank at h
  by_cases c1 : 0 ≤ a <;> by_cases c2 : 0 ≤ b
  · rw [if_pos c1, if_pos c2] at h; exact h
  · rw [if_pos c1, if_neg c2] at h; exact absurd (h ▸ c1) (hs b c2)
  · rw [if_neg c1, if_pos c2] at h; exact absurd (h ▸ c2) (hs a c1)
  · rw [if_neg c1, if_neg c2] at h
    rw [← hx a, h, hx b]
theorem rk4_inj {a b : Int32} (h : f_X1_shortRank a = f_X1_shortRank b) : a = b := by
  have hx : ∀ x : Int32, (x ^^^ 2147483647) ^^^ 2147483647 = x := fun x => by rw [Int32.xor_assoc, Int32.xor_self, Int32.xor_zero]
  have hs : ∀ x : Int32, ¬ 0 ≤ x → ¬ 0 ≤ x ^^^ 2147483647 := by
    intro x hx0 hc
    obtain ⟨m, σ, hm, hσ, rfl, hn⟩ := spi x
    have hσ2 : σ = 2 ^ 31 := by
      rcases hσ with e | e
      · exact absurd (Int32.not_lt.mp (fun q => (hn.mp q) e)) hx0
      · exact e
    subst hσ2
    obtain ⟨k, hk, e⟩ := nI_of (Int32.not_lt.mpr hc)
    have e2 := congrArg (fun y => y.toBitVec.getLsbD 31) e
    have t1 : (nI (m + 2 ^ 31)).toBitVec.getLsbD 31 = true := by
      rw [i_tb, BitVec.getLsbD_ofNat, tb_add hm]; simp
    have t2 : (2147483647 : Int32).toBitVec.getLsbD 31 = false := by decide
    have t3 : (nI k).toBitVec.getLsbD 31 = false := by
      rw [i_tb, BitVec.getLsbD_ofNat, tb_hi hk (Nat.le_refl _)]; simp
    simp only [Int32.toBitVec_xor, BitVec.getLsbD_xor, t1, t2, t3] at e2
    exact absurd e2 (by decide)
  unfold f_X1_shortRank at h
  by_cases c1 : 0 ≤ a <;> by_cases c2 : 0 ≤ b
  · rw [if_pos c1, if_pos c2] at h; exact h
  · rw [if_pos c1, if_neg c2] at h; exact absurd (h ▸ c1) (hs b c2)
  · rw [if_neg c1, if_pos c2] at h; exact absurd (h ▸ c2) (hs a c1)
  · rw [if_neg c1, if_neg c2] at h
    rw [← hx a, h, hx b]
theorem cmpL (a b : Int64) : (f_J13_compare_74951 a b = 0 ↔ a = b) ∧ (¬ a = b → (0 ≤ f_J13_compare_74951 a b ↔ b ≤ a)) := by
  unfold f_J13_compare_74951
  by_cases c1 : b ≤ a
  · rw [if_pos c1]
    by_cases c2 : a = b
    · rw [if_pos c2]; exact ⟨⟨fun _ => c2, fun _ => rfl⟩, fun q => absurd c2 q⟩
    · rw [if_neg c2]; exact ⟨⟨fun q => absurd q (by decide), fun q => absurd q c2⟩, fun _ => ⟨fun _ => c1, fun _ => by decide⟩⟩
  · rw [if_neg c1]
    exact ⟨⟨fun q => absurd q (by decide), fun q => absurd (by rw [q]; exact Int64.le_refl _) c1⟩, fun _ => ⟨fun q => absurd q (by decide), fun q => absurd q c1⟩⟩
theorem cmpI (a b : Int32) : (f_J6_compare_7cf53 a b = 0 ↔ a = b) ∧ (¬ a = b → (0 ≤ f_J6_compare_7cf53 a b ↔ b ≤ a)) := by
  unfold f_J6_compare_7cf53
  by_cases c1 : b ≤ a
  · rw [if_pos c1]
    by_cases c2 : a = b
    · rw [if_pos c2]; exact ⟨⟨fun _ => c2, fun _ => rfl⟩, fun q => absurd c2 q⟩
    · rw [if_neg c2]; exact ⟨⟨fun q => absurd q (by decide), fun q => absurd q c2⟩, fun _ => ⟨fun _ => c1, fun _ => by decide⟩⟩
  · rw [if_neg c1]
    exact ⟨⟨fun q => absurd q (by decide), fun q => absurd (by rw [q]; exact Int32.le_refl _) c1⟩, fun _ => ⟨fun q => absurd q (by decide), fun q => absurd q c1⟩⟩
theorem q_ahead (s : SB) (m : SM) (h1 : s.1 = m.1) (h2 : gB_Z s = gM_Z m) (t u : Int32) : f_X2_isAhead s t u = f_X3_isAhead m t u := by
  unfold f_X2_isAhead f_X3_isAhead
  dsimp only
  rw [h2]
  by_cases c1 : gM_Z m t.toNatClampNeg = gM_Z m u.toNatClampNeg
  · rw [if_pos c1, if_pos c1]
    by_cases c2 : gM_Z m t.toNatClampNeg = 0
    · rw [if_pos c2, if_pos c2]
      have eL : gB_L s = gM_L m := by show s.1.1.1 = m.1.1.1; rw [h1]
      have eP : gB_P s = gM_P m := by show s.1.1.2.1 = m.1.1.2.1; rw [h1]
      have eK : gB_K s = gM_K m := by show s.1.1.2.2.1 = m.1.1.2.2.1; rw [h1]
      have eT : gB_T s = gM_T m := by show s.1.1.2.2.2.1 = m.1.1.2.2.2.1; rw [h1]
      have eR : ∀ x, f_X3_place x = f_X1_rank x := fun _ => rfl
      have eR4 : ∀ x, f_X3_place4 x = f_X1_shortRank x := fun _ => rfl
      unfold f_X2_compareStrung
      dsimp only
      rw [eL, eP, eK, eT, eR, eR, eR4, eR4]
      generalize gM_L m t.toNatClampNeg = a1
      generalize gM_L m u.toNatClampNeg = b1
      generalize gM_P m t.toNatClampNeg = a2
      generalize gM_P m u.toNatClampNeg = b2
      generalize gM_K m t.toNatClampNeg = a3
      generalize gM_K m u.toNatClampNeg = b3
      generalize gM_T m t.toNatClampNeg = a4
      generalize gM_T m u.toNatClampNeg = b4
      by_cases d1 : a1 = b1
      · have g1 : f_J13_compare_74951 (f_X1_rank a1) (f_X1_rank b1) = 0 := (cmpL _ _).1.mpr (by rw [d1])
        rw [if_pos d1, if_pos g1]
        by_cases d2 : a2 = b2
        · have g2 : f_J6_compare_7cf53 (f_X1_shortRank a2) (f_X1_shortRank b2) = 0 := (cmpI _ _).1.mpr (by rw [d2])
          rw [if_pos d2, if_pos g2]
          by_cases d3 : a3 = b3
          · have g3 := (cmpI a3 b3).1.mpr d3
            rw [if_pos d3, if_pos g3]
            by_cases d4 : a4 = b4
            · rw [if_pos d4, if_pos ((cmpL a4 b4).1.mpr d4)]
            · have g4 := (cmpL a4 b4).2 d4
              rw [if_neg d4, if_neg (fun q => d4 ((cmpL a4 b4).1.mp q))]
              by_cases d5 : b4 ≤ a4
              · rw [if_pos d5, if_pos (g4.mpr d5)]
              · rw [if_neg d5, if_neg (fun q => d5 (g4.mp q))]
          · have g3 : ¬ f_J6_compare_7cf53 a3 b3 = 0 := fun q => d3 ((cmpI a3 b3).1.mp q)
            have g4 := (cmpI a3 b3).2 d3
            rw [if_neg d3, if_neg g3, if_neg g3]
            by_cases d5 : b3 ≤ a3
            · rw [if_pos d5, if_pos (g4.mpr d5)]
            · rw [if_neg d5, if_neg (fun q => d5 (g4.mp q))]
        · have d2' : ¬ f_X1_shortRank a2 = f_X1_shortRank b2 := fun q => d2 (rk4_inj q)
          have g3 : ¬ f_J6_compare_7cf53 (f_X1_shortRank a2) (f_X1_shortRank b2) = 0 := fun q => d2' ((cmpI _ _).1.mp q)
          have g4 := (cmpI _ _).2 d2'
          rw [if_neg d2, if_neg g3, if_neg g3]
          by_cases d5 : f_X1_shortRank b2 ≤ f_X1_shortRank a2
          · rw [if_pos d5, if_pos (g4.mpr d5)]
          · rw [if_neg d5, if_neg (fun q => d5 (g4.mp q))]
      · have d1' : ¬ f_X1_rank a1 = f_X1_rank b1 := fun q => d1 (rk_inj q)
        have g3 : ¬ f_J13_compare_74951 (f_X1_rank a1) (f_X1_rank b1) = 0 := fun q => d1' ((cmpL _ _).1.mp q)
        have g4 := (cmpL _ _).2 d1'
        rw [if_neg d1, if_neg g3, if_neg g3]
        by_cases d5 : f_X1_rank b1 ≤ f_X1_rank a1
        · rw [if_pos d5, if_pos (g4.mpr d5)]
        · rw [if_neg d5, if_neg (fun q => d5 (g4.mp q))]
    · rw [if_neg c2, if_neg c2]
  · rw [if_neg c1, if_neg c1]
