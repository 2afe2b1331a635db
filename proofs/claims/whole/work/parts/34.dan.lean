/-- within a dance -/
def RD (q : Nat) (z : SB) (zm : SM) : Prop := z.1 = zm.1 ∧ gB_Z z = gM_Z zm ∧ gB_re z = gM_re zm ∧ (gB_sz z = nI q ∧ gM_st zm = nI q ∧ ∀ j, j < q → gB_MV z j = gM_FG zm (3 * j) ∧ gB_TH z j = gM_FG zm (3 * j + 1) ∧ gB_OT z j = gM_FG zm (3 * j + 2)) ∧ (∀ i, i < 4 → gB_CH z (i + 1) = gM_CG zm i) ∧ gM_en zm = -1 ∧ numC z.1 ∧ ZOK (gB_Z z)
theorem adc_at (f : Nat → Int32) (a b d e : Int32) : adc f a b d e 0 = f 0 + a ∧ adc f a b d e 1 = f 1 + b ∧ adc f a b d e 2 = f 2 + d ∧ adc f a b d e 3 = f 3 + e := ⟨rfl, rfl, rfl, rfl⟩
theorem dn_step {q : Nat} (hq : q ≤ 40) {z : SB} {zm : SM} (h : RD q z zm) {j i N : Nat} (hj : j < q) (hi : i < N) (hN : N ≤ 50) (y2 : Int32) :
    (∃ (z' : SB) (zm' : SM), f_X2_danceOnce_b z (nI j) = .inl (z', nI (j + 1)) ∧ f_X3_dance_b zm (nI N) y2 (nI (i * q + j)) = .inl (zm', y2 + 1, nI (i * q + j + 1)) ∧ RD q z' zm' ∧ gB_re z' = 0) ∨
    (∃ r : Int32, ¬ r = 0 ∧ f_X2_danceOnce_b z (nI j) = .inr (nI j, pB_re z r) ∧ f_X3_dance_b zm (nI N) y2 (nI (i * q + j)) = .inr (y2, pM_en (pM_re zm r) (nI j))) := by
  obtain ⟨h1, h2, h3, ⟨e1, e2, hF⟩, hC, hE, h6, h7⟩ := h
  obtain ⟨f1, f2, f3⟩ := hF j hj
  have hmul : (i + 1) * q ≤ N * q := Nat.mul_le_mul_right q hi
  rw [Nat.add_mul, Nat.one_mul] at hmul
  have hNq : N * q ≤ 50 * 40 := Nat.mul_le_mul hN hq
  have i3 : (nI j).toNatClampNeg = j := nI_clamp (by omega)
  have hmod : (i * q + j) % q = j := by rw [Nat.mul_comm, Nat.mul_add_mod, Nat.mod_eq_of_lt hj]
  have hx1 : nI (i * q + j) - nI (i * q + j) / nI q * nI q = nI j := by rw [pk_rem (by omega) (by omega) (by omega), hmod]
  have i0 : ((3 : Int32) * nI j).toNatClampNeg = 3 * j := by rw [show (3 : Int32) * nI j = nI (3 * j) from pk_mul 3 j, nI_clamp (by omega)]
  have i1 : ((3 : Int32) * nI j + 1).toNatClampNeg = 3 * j + 1 := by rw [show (3 : Int32) * nI j = nI (3 * j) from pk_mul 3 j, nI_1, nI_clamp (by omega)]
  have i2 : ((3 : Int32) * nI j + 2).toNatClampNeg = 3 * j + 2 := by rw [show (3 : Int32) * nI j = nI (3 * j) from pk_mul 3 j, show nI (3 * j) + 2 = nI (3 * j + 2) from nI_add _ 2, nI_clamp (by omega)]
  have hb1 : f_X2_danceOnce_b z (nI j) = if f_X3_lackOf zm (gM_FG zm (3 * j)) (gM_FG zm (3 * j + 1)) (gM_FG zm (3 * j + 2)) = 0 then .inl (f_X2_perform (pB_re z (f_X3_lackOf zm (gM_FG zm (3 * j)) (gM_FG zm (3 * j + 1)) (gM_FG zm (3 * j + 2)))) (gM_FG zm (3 * j)) (gM_FG zm (3 * j + 1)) (gM_FG zm (3 * j + 2)), nI j + 1) else .inr (nI j, pB_re z (f_X3_lackOf zm (gM_FG zm (3 * j)) (gM_FG zm (3 * j + 1)) (gM_FG zm (3 * j + 2)))) := by
    unfold f_X2_danceOnce_b
    dsimp only
    rw [e1, if_neg (nI_ge hj (by omega)), if_neg (show ¬ (40 : Int32) ≤ nI j from nI_ge (a := j) (b := 40) (by omega) (by decide)), i3, f1, f2, f3, x_mv z zm h2]
  have hb2 : f_X3_dance_b zm (nI N) y2 (nI (i * q + j)) = if f_X3_lackOf zm (gM_FG zm (3 * j)) (gM_FG zm (3 * j + 1)) (gM_FG zm (3 * j + 2)) ≤ 0 then .inl ((f_X3_moved_C (pM_re zm (f_X3_lackOf zm (gM_FG zm (3 * j)) (gM_FG zm (3 * j + 1)) (gM_FG zm (3 * j + 2)))) (gM_FG zm (3 * j)) (gM_FG zm (3 * j + 1)) (gM_FG zm (3 * j + 2))).2, y2 + 1, nI (i * q + j) + 1) else .inr (y2, pM_en (pM_re zm (f_X3_lackOf zm (gM_FG zm (3 * j)) (gM_FG zm (3 * j + 1)) (gM_FG zm (3 * j + 2)))) (nI j)) := by
    unfold f_X3_dance_b
    dsimp only
    rw [e2, pk_mul, if_neg (nI_ge (show i * q + j < N * q by omega) (by omega)), hx1, i0, i1, i2]
  rw [hb1, hb2]
  generalize gM_FG zm (3 * j) = n at *
  generalize gM_FG zm (3 * j + 1) = t at *
  generalize gM_FG zm (3 * j + 2) = u at *
  by_cases c : f_X3_lackOf zm n t u = 0
  · left
    have c2 := (lo_le zm n t u).mpr c
    rw [if_pos c, if_pos c2, nI_1, nI_1]
    obtain ⟨ht, hu⟩ := hm_of c2
    obtain ⟨hn0, hn1⟩ := lo_n c2
    obtain ⟨c', a, b, d, e, p1, p2, p3, p4, p5, p6, p7, p8⟩ := mv_both (pB_re z (f_X3_lackOf zm n t u)) (pM_re zm (f_X3_lackOf zm n t u)) h1 n t u hn0 hn1 ht hu h6
    refine ⟨_, _, rfl, rfl, ?_⟩
    have g2 := sd_does (wS (pM_re zm (f_X3_lackOf zm n t u))) n t u
    rw [p1, mvC_eq, p5, p6, p7, p8]
    generalize f_X3_lackOf zm n t u = r at *
    generalize f_X3_does (wS (pM_re zm r)) n t u = w at *
    obtain ⟨wc, wr⟩ := w
    have g3 : wr = (wS (pM_re zm r)).2 := g2
    subst g3
    have g4 : wc = c' := p2
    subst g4
    refine ⟨⟨rfl, h2, rfl, ⟨e1, e2, hF⟩, fun k hk => ?_, hE, p3, h7⟩, c⟩
    show ad1 (gB_CH z) a b d e (k + 1) = adc (gM_CG zm) a b d e k
    match k, hk with
    | 0, _ => show gB_CH z 1 + a = gM_CG zm 0 + a; rw [hC 0 (by decide)]
    | 1, _ => show gB_CH z 2 + b = gM_CG zm 1 + b; rw [hC 1 (by decide)]
    | 2, _ => show gB_CH z 3 + d = gM_CG zm 2 + d; rw [hC 2 (by decide)]
    | 3, _ => show gB_CH z 4 + e = gM_CG zm 3 + e; rw [hC 3 (by decide)]
    | k + 4, hk => exact absurd hk (by omega)
  · right
    exact ⟨_, c, if_neg c, if_neg (fun q => c ((lo_le zm n t u).mp q))⟩
theorem nI_sl (y : Int32) (p : Nat) : y + 1 + nI p = y + nI (p + 1) := by
  rw [Int32.add_assoc, nI_succ, Int32.add_comm 1 (nI p)]
/-- one pass through the figure -/
theorem dn_pass {q : Nat} (hq : q ≤ 40) {i N : Nat} (hi : i < N) (hN : N ≤ 50) (d : Int32 × SB) (dm : Int32 × SM) (G F : Nat) (hG : 0 < G) : ∀ (p : Nat), p ≤ q → ∀ (z : SB) (zm : SM) (y2 : Int32), RD q z zm → gB_re z = 0 →
    (∃ (z' : SB) (zm' : SM), RD q z' zm' ∧ gB_re z' = 0 ∧ lp (fun x : SB × Int32 => f_X2_danceOnce_b x.1 x.2) d (G + p) (z, nI (q - p)) = (nI q, z') ∧ lp (fun x : SM × Int32 × Int32 => f_X3_dance_b x.1 (nI N) x.2.1 x.2.2) dm (F + p) (zm, y2, nI (i * q + (q - p))) = lp (fun x : SM × Int32 × Int32 => f_X3_dance_b x.1 (nI N) x.2.1 x.2.2) dm F (zm', y2 + nI p, nI (i * q + q))) ∨
    (∃ (z1 : SB) (zm1 : SM) (r : Int32) (j : Nat), RD q z1 zm1 ∧ ¬ r = 0 ∧ j < q ∧ q - p ≤ j ∧ lp (fun x : SB × Int32 => f_X2_danceOnce_b x.1 x.2) d (G + p) (z, nI (q - p)) = (nI j, pB_re z1 r) ∧ lp (fun x : SM × Int32 × Int32 => f_X3_dance_b x.1 (nI N) x.2.1 x.2.2) dm (F + p) (zm, y2, nI (i * q + (q - p))) = (y2 + nI (j - (q - p)), pM_en (pM_re zm1 r) (nI j)))
  | 0, _, z, zm, y2, h, hr => by
    left
    refine ⟨z, zm, h, hr, ?_, ?_⟩
    · obtain ⟨G', rfl⟩ : ∃ G', G = G' + 1 := ⟨G - 1, by omega⟩
      have e1 : gB_sz z = nI q := h.2.2.2.1.1
      have g : f_X2_danceOnce_b z (nI (q - 0)) = .inr (nI q, z) := by
        unfold f_X2_danceOnce_b
        rw [e1, Nat.sub_zero, if_pos (Int32.le_refl _)]
      exact lp_r g
    · rw [Nat.sub_zero, nI_0, Int32.add_zero]
      rfl
  | p + 1, hp, z, zm, y2, h, hr => by
    have e1 : q - (p + 1) + 1 = q - p := by omega
    rw [← Nat.add_assoc, ← Nat.add_assoc]
    rcases dn_step hq h (j := q - (p + 1)) (by omega) hi hN y2 with ⟨z', zm', g1, g2, h', hr'⟩ | ⟨r, hr0, g1, g2⟩
    · rw [e1] at g1
      rw [Nat.add_assoc, e1] at g2
      rcases dn_pass hq hi hN d dm G F hG p (by omega) z' zm' (y2 + 1) h' hr' with ⟨w, wm, k1, k2, k3, k4⟩ | ⟨w, wm, r, j, k1, k2, k3, k4, k5, k6⟩
      · left
        refine ⟨w, wm, k1, k2, (lp_l g1).trans k3, (lp_l g2).trans (k4.trans ?_)⟩
        rw [nI_sl]
      · right
        refine ⟨w, wm, r, j, k1, k2, k3, by omega, (lp_l g1).trans k5, (lp_l g2).trans (k6.trans ?_)⟩
        rw [nI_sl, show j - (q - p) + 1 = j - (q - (p + 1)) by omega]
    · right
      refine ⟨z, zm, r, q - (p + 1), h, hr0, by omega, Nat.le_refl _, lp_r g1, (lp_r g2).trans ?_⟩
      rw [Nat.sub_self, nI_0, Int32.add_zero]
theorem kd_at (z : SB) (n : Int32) : gB_LD (f_X2_keepDance z n) 0 = n ∧ ∀ i, i < 4 → gB_LD (f_X2_keepDance z n) (i + 1) = gB_CH z (i + 1) := by
  unfold f_X2_keepDance
  rw [tn0, tn1, tn2, tn3, tn4]
  refine ⟨rfl, fun i hi => ?_⟩
  match i, hi with
  | 0, _ => rfl
  | 1, _ => rfl
  | 2, _ => rfl
  | 3, _ => rfl
  | i + 4, hi => exact absurd hi (by omega)
theorem dn_end {q : Nat} (hq : q ≤ 40) {z : SB} {zm : SM} (h : RD q z zm) : RR (f_X2_keepDance z (-1)) zm := by
  obtain ⟨h1, h2, h3, ⟨e1, e2, hF⟩, hC, hE, h6, h7⟩ := h
  obtain ⟨k0, k1⟩ := kd_at z (-1)
  exact ⟨h1, h2, h3, ⟨q, hq, e1, e2, hF⟩, ⟨k0.trans hE.symm, fun i hi => (k1 i hi).trans (hC i hi)⟩, h6, h7⟩
theorem dn_end2 {q : Nat} (hq : q ≤ 40) {z : SB} {zm : SM} (h : RD q z zm) (r : Int32) (j : Nat) : RR (f_X2_keepDance (pB_re z r) (nI j)) (pM_en (pM_re zm r) (nI j)) := by
  obtain ⟨h1, h2, h3, ⟨e1, e2, hF⟩, hC, hE, h6, h7⟩ := h
  obtain ⟨k0, k1⟩ := kd_at (pB_re z r) (nI j)
  exact ⟨h1, h2, rfl, ⟨q, hq, e1, e2, hF⟩, ⟨k0, fun i hi => (k1 i hi).trans (hC i hi)⟩, h6, h7⟩
theorem dn_all {q : Nat} (hq : q ≤ 40) {N : Nat} (hN : N ≤ 50) (d : Int32 × SB) (dm : Int32 × SM) (E F : Nat) : ∀ (n : Nat), n ≤ N → ∀ (z : SB) (zm : SM) (y2 : Int32), RD q z zm → gB_re z = 0 →
    (lp (fun x : SB × Int32 × Int32 × Int32 => f_X2_dance_b x.1 (nI N) x.2.1 x.2.2.1 x.2.2.2) d (E + 1 + n) (z, y2, -1, nI (N - n))).1 = (lp (fun x : SM × Int32 × Int32 => f_X3_dance_b x.1 (nI N) x.2.1 x.2.2) dm (F + 1 + n * q) (zm, y2, nI ((N - n) * q))).1 ∧
    RR (lp (fun x : SB × Int32 × Int32 × Int32 => f_X2_dance_b x.1 (nI N) x.2.1 x.2.2.1 x.2.2.2) d (E + 1 + n) (z, y2, -1, nI (N - n))).2 (lp (fun x : SM × Int32 × Int32 => f_X3_dance_b x.1 (nI N) x.2.1 x.2.2) dm (F + 1 + n * q) (zm, y2, nI ((N - n) * q))).2
  | 0, _, z, zm, y2, h, hr => by
    have e2 : gM_st zm = nI q := h.2.2.2.1.2.1
    have g1 : f_X2_dance_b z (nI N) y2 (-1) (nI (N - 0)) = .inr (y2, f_X2_keepDance z (-1)) := if_pos (Int32.le_refl _)
    have g2 : f_X3_dance_b zm (nI N) y2 (nI ((N - 0) * q)) = .inr (y2, zm) := by
      unfold f_X3_dance_b
      rw [e2, pk_mul, Nat.sub_zero, if_pos (Int32.le_refl _)]
    rw [Nat.zero_mul, Nat.add_zero, Nat.add_zero]
    have l1 : lp (fun x : SB × Int32 × Int32 × Int32 => f_X2_dance_b x.1 (nI N) x.2.1 x.2.2.1 x.2.2.2) d (E + 1) (z, y2, -1, nI (N - 0)) = (y2, f_X2_keepDance z (-1)) := lp_r g1
    have l2 : lp (fun x : SM × Int32 × Int32 => f_X3_dance_b x.1 (nI N) x.2.1 x.2.2) dm (F + 1) (zm, y2, nI ((N - 0) * q)) = (y2, zm) := lp_r g2
    rw [l1, l2]
    exact ⟨rfl, dn_end hq h⟩
  | n + 1, hn, z, zm, y2, h, hr => by
    have e1 : N - (n + 1) + 1 = N - n := by omega
    have e3 : (N - (n + 1)) * q + q = (N - n) * q := by rw [← e1, Nat.add_mul, Nat.one_mul]
    have hk : ¬ nI N ≤ nI (N - (n + 1)) := nI_ge (by omega) (by omega)
    have ef : F + 1 + (n + 1) * q = F + 1 + n * q + q := by rw [Nat.add_mul, Nat.one_mul, Nat.add_assoc, Nat.add_assoc, Nat.add_assoc]
    have hp := dn_pass hq (i := N - (n + 1)) (N := N) (by omega) hN ((0 : Int32), z) dm (41 - q) (F + 1 + n * q) (by omega) q (Nat.le_refl q) z zm y2 h hr
    simp only [Nat.sub_self, Nat.add_zero] at hp
    rw [show 41 - q + q = 41 by omega, e3, ← ef] at hp
    have ed : f_X2_danceOnce z = lp (fun x : SB × Int32 => f_X2_danceOnce_b x.1 x.2) ((0 : Int32), z) 41 (z, nI 0) := rfl
    rw [← ed] at hp
    rcases hp with ⟨z', zm', k1, k2, k3, k4⟩ | ⟨z1, zm1, r, j, k1, k2, k3, -, k5, k6⟩
    · have g1 : f_X2_dance_b z (nI N) y2 (-1) (nI (N - (n + 1))) = .inl (z', y2 + nI q, -1, nI (N - n)) := by
        unfold f_X2_dance_b
        dsimp only
        rw [if_neg hk, if_pos rfl, k3]
        dsimp only
        rw [if_pos k2, nI_1, e1]
      have l1 : lp (fun x : SB × Int32 × Int32 × Int32 => f_X2_dance_b x.1 (nI N) x.2.1 x.2.2.1 x.2.2.2) d (E + 1 + (n + 1)) (z, y2, -1, nI (N - (n + 1))) = lp (fun x : SB × Int32 × Int32 × Int32 => f_X2_dance_b x.1 (nI N) x.2.1 x.2.2.1 x.2.2.2) d (E + 1 + n) (z', y2 + nI q, -1, nI (N - n)) := lp_l g1
      rw [l1, k4]
      exact dn_all hq hN d dm E F n (by omega) z' zm' (y2 + nI q) k1 k2
    · have g1 : f_X2_dance_b z (nI N) y2 (-1) (nI (N - (n + 1))) = .inl (pB_re z1 r, y2 + nI j, nI j, nI (N - n)) := by
        unfold f_X2_dance_b
        dsimp only
        rw [if_neg hk, if_pos rfl, k5]
        dsimp only
        rw [if_neg (show ¬ gB_re (pB_re z1 r) = 0 from k2), nI_1, e1]
      have hne : ¬ nI j = -1 := fun q => absurd (q ▸ (by decide : (-1 : Int32) < 0)) (nI_pos (by omega))
      have g2 : f_X2_dance_b (pB_re z1 r) (nI N) (y2 + nI j) (nI j) (nI (N - n)) = .inr (y2 + nI j, f_X2_keepDance (pB_re z1 r) (nI j)) := by
        unfold f_X2_dance_b
        dsimp only
        by_cases c : nI N ≤ nI (N - n)
        · rw [if_pos c]
        · rw [if_neg c, if_neg hne]
      have l1 : lp (fun x : SB × Int32 × Int32 × Int32 => f_X2_dance_b x.1 (nI N) x.2.1 x.2.2.1 x.2.2.2) d (E + 1 + (n + 1)) (z, y2, -1, nI (N - (n + 1))) = lp (fun x : SB × Int32 × Int32 × Int32 => f_X2_dance_b x.1 (nI N) x.2.1 x.2.2.1 x.2.2.2) d (E + 1 + n) (pB_re z1 r, y2 + nI j, nI j, nI (N - n)) := lp_l g1
      have l2 : lp (fun x : SB × Int32 × Int32 × Int32 => f_X2_dance_b x.1 (nI N) x.2.1 x.2.2.1 x.2.2.2) d (E + n + 1) (pB_re z1 r, y2 + nI j, nI j, nI (N - n)) = (y2 + nI j, f_X2_keepDance (pB_re z1 r) (nI j)) := lp_r g2
      rw [show E + n + 1 = E + 1 + n by omega] at l2
      rw [l1, l2, k6, Nat.sub_zero]
      exact ⟨rfl, dn_end2 hq k1 r j⟩
theorem q_dance {s : SB} {m : SM} (h : RR s m) (k : Int32) : (f_X2_dance s k).1 = (f_X3_dance m k).1 ∧ RR (f_X2_dance s k).2 (f_X3_dance m k).2 := by
  obtain ⟨h1, h2, h3, h4, h5, h6, h7⟩ := h
  unfold f_X2_dance f_X3_dance
  dsimp only
  by_cases c1 : k < 0
  · rw [if_pos c1, if_pos c1]
    exact ⟨rfl, h1, h2, rfl, h4, h5, h6, h7⟩
  · rw [if_neg c1, if_neg c1]
    by_cases c2 : k ≤ 50
    · rw [if_pos c2, if_pos c2, lpw_eq]
      obtain ⟨N, hN, rfl⟩ := nI_of2 (n := 50) (by decide) c1 c2
      obtain ⟨q, hq, e1, e2, hF⟩ := h4
      have hNq : N * q ≤ 50 * 40 := Nat.mul_le_mul hN hq
      obtain ⟨k1, k2, k3, k4⟩ := cl_ch (pB_re s 0)
      have e0 := cl_eq (pB_re s 0)
      rw [e0]
      generalize gB_CH (f_X2_clearChanges (pB_re s 0)) = ch at *
      rw [tn0, tn1, tn2, tn3]
      have hRD : RD q (pB_CH (pB_re s 0) ch) (pM_CG (pM_en (pM_re m 0) (-1)) (upd (upd (upd (upd (gM_CG m) 0 0) 1 0) 2 0) 3 0)) := by
        refine ⟨h1, h2, rfl, ⟨e1, e2, hF⟩, fun i hi => ?_, rfl, h6, h7⟩
        match i, hi with
        | 0, _ => exact k1
        | 1, _ => exact k2
        | 2, _ => exact k3
        | 3, _ => exact k4
        | i + 4, hi => exact absurd hi (by omega)
      have hh := dn_all hq hN ((0 : Int32), s) ((0 : Int32), m) (50 - N) (2000 - N * q) N (Nat.le_refl N) _ _ 0 hRD rfl
      rw [Nat.sub_self, Nat.zero_mul, nI_0, show 50 - N + 1 + N = 51 by omega, show 2000 - N * q + 1 + N * q = 2001 by omega] at hh
      exact hh
    · rw [if_neg c2, if_neg c2]
      exact ⟨rfl, h1, h2, rfl, h4, h5, h6, h7⟩
