theorem tn0 : (0 : Int32).toNatClampNeg = 0 := by decide
theorem tn1 : (1 : Int32).toNatClampNeg = 1 := by decide
theorem tn2 : (2 : Int32).toNatClampNeg = 2 := by decide
theorem tn3 : (3 : Int32).toNatClampNeg = 3 := by decide
theorem tn4 : (4 : Int32).toNatClampNeg = 4 := by decide
theorem tn5 : (5 : Int32).toNatClampNeg = 5 := by decide
theorem tn6 : (6 : Int32).toNatClampNeg = 6 := by decide
theorem tn7 : (7 : Int32).toNatClampNeg = 7 := by decide
def neL (x y : Int64) : Int32 := if x = y then 0 else 1
def neI (x y : Int32) : Int32 := if x = y then 0 else 1
def adc (f : Nat → Int32) (a b c d : Int32) : Nat → Int32 := upd (upd (upd (upd f 0 (f 0 + a)) 1 (f 1 + b)) 2 (f 2 + c)) 3 (f 3 + d)
theorem adc_0 (f : Nat → Int32) : adc f 0 0 0 0 = f := by
  funext k
  simp only [adc, upd, Int32.add_zero]
  repeat' split
  all_goals first | rfl | (subst_vars; rfl)
theorem adc_adc (f : Nat → Int32) (a b c d a2 b2 c2 d2 : Int32) : adc (adc f a b c d) a2 b2 c2 d2 = adc f (a + a2) (b + b2) (c + c2) (d + d2) := by
  funext k
  by_cases h0 : k = 0
  · subst h0; show f 0 + a + a2 = f 0 + (a + a2); rw [Int32.add_assoc]
  · by_cases h1 : k = 1
    · subst h1; show f 1 + b + b2 = f 1 + (b + b2); rw [Int32.add_assoc]
    · by_cases h2 : k = 2
      · subst h2; show f 2 + c + c2 = f 2 + (c + c2); rw [Int32.add_assoc]
      · by_cases h3 : k = 3
        · subst h3; show f 3 + d + d2 = f 3 + (d + d2); rw [Int32.add_assoc]
        · simp [adc, upd, h0, h1, h2, h3]
/-- the last n of eight -/
def ts (d : Nat → Int32) : Nat → Int32
  | 0 => 0
  | n + 1 => d (7 - n) + ts d n
theorem ts_congr {d e : Nat → Int32} (h : ∀ k, k < 8 → d k = e k) : ∀ n, n ≤ 8 → ts d n = ts e n
  | 0, _ => rfl
  | n + 1, hn => by
    show d (7 - n) + ts d n = e (7 - n) + ts e n
    rw [h (7 - n) (by omega), ts_congr h n (by omega)]
abbrev nL (f g : Nat → Int64) (k : Nat) : Int32 := neL (f k) (g k)
abbrev nN (f g : Nat → Int32) (k : Nat) : Int32 := neI (f k) (g k)
abbrev nA (z : SM) (k : Nat) : Int32 := ((neL (gM_L z k) (gM_LW z k) + neI (gM_P z k) (gM_PW z k)) + neI (gM_K z k) (gM_KW z k)) + neL (gM_T z k) (gM_TW z k)
theorem nI8 {n : Nat} (h : n < 8) : ¬ (8 : Int32) ≤ nI (7 - n) := nI_ge (a := 7 - n) (b := 8) (by omega) (by decide)
theorem nI7 {n : Nat} (h : n < 8) : nI (7 - n) + 1 = nI (8 - n) := by
  rw [nI_1, show 7 - n + 1 = 8 - n by omega]
theorem nIc {n : Nat} (h : n < 8) : (nI (7 - n)).toNatClampNeg = 7 - n := nI_clamp (by omega)

theorem mvb_C (z : SM) (n t u y5 y6 : Int32) : f_X3_moved_C_b z n t u y5 y6 = if 8 ≤ y6 then .inr (y5, z) else .inl (pM_CG z (adc (gM_CG z) (neL (gM_L z y6.toNatClampNeg) (gM_LW z y6.toNatClampNeg)) (neI (gM_P z y6.toNatClampNeg) (gM_PW z y6.toNatClampNeg)) (neI (gM_K z y6.toNatClampNeg) (gM_KW z y6.toNatClampNeg)) (neL (gM_T z y6.toNatClampNeg) (gM_TW z y6.toNatClampNeg))), y5 + nA z y6.toNatClampNeg, y6 + 1) := by
  unfold f_X3_moved_C_b nA neL neI
  simp only [tn0, tn1, tn2, tn3]
  by_cases h : 8 ≤ y6
  · rw [if_pos h, if_pos h]
  · rw [if_neg h, if_neg h]
    by_cases h1 : gM_L z y6.toNatClampNeg = gM_LW z y6.toNatClampNeg <;> by_cases h2 : gM_P z y6.toNatClampNeg = gM_PW z y6.toNatClampNeg <;> by_cases h3 : gM_K z y6.toNatClampNeg = gM_KW z y6.toNatClampNeg <;> by_cases h4 : gM_T z y6.toNatClampNeg = gM_TW z y6.toNatClampNeg <;> simp only [h1, h2, h3, h4, if_true, if_false] <;> rfl
theorem mvl_C (n t u : Int32) (d : Int32 × SM) : ∀ (k : Nat), k ≤ 8 → ∀ (z : SM) (y5 : Int32), lp (fun x : SM × Int32 × Int32 => f_X3_moved_C_b x.1 n t u x.2.1 x.2.2) d (k + 1) (z, y5, nI (8 - k)) = (y5 + ts (nA z) k, pM_CG z (adc (gM_CG z) (ts (nL (gM_L z) (gM_LW z)) k) (ts (nN (gM_P z) (gM_PW z)) k) (ts (nN (gM_K z) (gM_KW z)) k) (ts (nL (gM_T z) (gM_TW z)) k)))
  | 0, _, z, y5 => by
    refine (lp_r (r := (y5, z)) ((mvb_C z n t u y5 _).trans (if_pos (show (8 : Int32) ≤ nI (8 - 0) by decide)))).trans ?_
    show (y5, z) = (y5 + 0, pM_CG z (adc (gM_CG z) 0 0 0 0))
    rw [adc_0, Int32.add_zero]
  | k + 1, hk, z, y5 => by
    have hk7 : 8 - (k + 1) = 7 - k := by omega
    rw [hk7]
    refine (lp_l ((mvb_C z n t u y5 _).trans (if_neg (nI8 (by omega))))).trans ?_
    rw [nIc (by omega), nI7 (by omega)]
    refine (mvl_C n t u d k (by omega) _ _).trans ?_
    show (y5 + nA z (7 - k) + ts (nA z) k, pM_CG z (adc (adc (gM_CG z) _ _ _ _) (ts (nL (gM_L z) (gM_LW z)) k) (ts (nN (gM_P z) (gM_PW z)) k) (ts (nN (gM_K z) (gM_KW z)) k) (ts (nL (gM_T z) (gM_TW z)) k))) = _
    rw [adc_adc, Int32.add_assoc]
    rfl

theorem mvb_A (z : SM) (n t u y5 y6 : Int32) : f_X3_moved_A_b z n t u y5 y6 = if 8 ≤ y6 then .inr (y5, z) else .inl (pM_AL z (adc (gM_AL z) (neL (gM_L z y6.toNatClampNeg) (gM_LW z y6.toNatClampNeg)) (neI (gM_P z y6.toNatClampNeg) (gM_PW z y6.toNatClampNeg)) (neI (gM_K z y6.toNatClampNeg) (gM_KW z y6.toNatClampNeg)) (neL (gM_T z y6.toNatClampNeg) (gM_TW z y6.toNatClampNeg))), y5 + nA z y6.toNatClampNeg, y6 + 1) := by
  unfold f_X3_moved_A_b nA neL neI
  simp only [tn0, tn1, tn2, tn3]
  by_cases h : 8 ≤ y6
  · rw [if_pos h, if_pos h]
  · rw [if_neg h, if_neg h]
    by_cases h1 : gM_L z y6.toNatClampNeg = gM_LW z y6.toNatClampNeg <;> by_cases h2 : gM_P z y6.toNatClampNeg = gM_PW z y6.toNatClampNeg <;> by_cases h3 : gM_K z y6.toNatClampNeg = gM_KW z y6.toNatClampNeg <;> by_cases h4 : gM_T z y6.toNatClampNeg = gM_TW z y6.toNatClampNeg <;> simp only [h1, h2, h3, h4, if_true, if_false] <;> rfl
theorem mvl_A (n t u : Int32) (d : Int32 × SM) : ∀ (k : Nat), k ≤ 8 → ∀ (z : SM) (y5 : Int32), lp (fun x : SM × Int32 × Int32 => f_X3_moved_A_b x.1 n t u x.2.1 x.2.2) d (k + 1) (z, y5, nI (8 - k)) = (y5 + ts (nA z) k, pM_AL z (adc (gM_AL z) (ts (nL (gM_L z) (gM_LW z)) k) (ts (nN (gM_P z) (gM_PW z)) k) (ts (nN (gM_K z) (gM_KW z)) k) (ts (nL (gM_T z) (gM_TW z)) k)))
  | 0, _, z, y5 => by
    refine (lp_r (r := (y5, z)) ((mvb_A z n t u y5 _).trans (if_pos (show (8 : Int32) ≤ nI (8 - 0) by decide)))).trans ?_
    show (y5, z) = (y5 + 0, pM_AL z (adc (gM_AL z) 0 0 0 0))
    rw [adc_0, Int32.add_zero]
  | k + 1, hk, z, y5 => by
    have hk7 : 8 - (k + 1) = 7 - k := by omega
    rw [hk7]
    refine (lp_l ((mvb_A z n t u y5 _).trans (if_neg (nI8 (by omega))))).trans ?_
    rw [nIc (by omega), nI7 (by omega)]
    refine (mvl_A n t u d k (by omega) _ _).trans ?_
    show (y5 + nA z (7 - k) + ts (nA z) k, pM_AL z (adc (adc (gM_AL z) _ _ _ _) (ts (nL (gM_L z) (gM_LW z)) k) (ts (nN (gM_P z) (gM_PW z)) k) (ts (nN (gM_K z) (gM_KW z)) k) (ts (nL (gM_T z) (gM_TW z)) k))) = _
    rw [adc_adc, Int32.add_assoc]
    rfl

theorem sd_flip (s : SM) (t : Int32) : (f_X3_flip s t).2 = s.2 := by
  unfold f_X3_flip
  try dsimp only
  repeat' (first | rfl | split)

theorem sd_lean (s : SM) (t : Int32) : (f_X3_lean s t).2 = s.2 := by
  unfold f_X3_lean
  try dsimp only
  repeat' (first | rfl | split)

theorem sd_gather (s : SM) (t : Int32) : (f_X3_gather s t).2 = s.2 := by
  unfold f_X3_gather
  try dsimp only
  repeat' (first | rfl | split)

theorem sd_climb (s : SM) (t : Int32) : (f_X3_climb s t).2 = s.2 := by
  unfold f_X3_climb
  try dsimp only
  repeat' (first | rfl | split)

theorem sd_stretch (s : SM) (t u : Int32) : (f_X3_stretch s t u).2 = s.2 := by
  unfold f_X3_stretch
  try dsimp only
  repeat' (first | rfl | split)

theorem sd_ease (s : SM) (t u : Int32) : (f_X3_ease s t u).2 = s.2 := by
  unfold f_X3_ease
  try dsimp only
  repeat' (first | rfl | split)

theorem sd_mirror (s : SM) (t u : Int32) : (f_X3_mirror s t u).2 = s.2 := by
  unfold f_X3_mirror
  try dsimp only
  repeat' (first | rfl | split)

theorem sd_stops (s : SM) (t u : Int32) : (f_X3_stops s t u).2 = s.2 := by
  unfold f_X3_stops
  try dsimp only
  repeat' (first | rfl | split)

theorem sd_trade_L (s : SM) (t u : Int32) : (f_X3_trade_L s t u).2 = s.2 := by
  unfold f_X3_trade_L
  try dsimp only
  repeat' (first | rfl | split)

theorem sd_trade_T (s : SM) (t u : Int32) : (f_X3_trade_T s t u).2 = s.2 := by
  unfold f_X3_trade_T
  try dsimp only
  repeat' (first | rfl | split)

theorem sd_trade_LO (s : SM) (t u : Int32) : (f_X3_trade_LO s t u).2 = s.2 := by
  unfold f_X3_trade_LO
  try dsimp only
  repeat' (first | rfl | split)

theorem sd_trade_HI (s : SM) (t u : Int32) : (f_X3_trade_HI s t u).2 = s.2 := by
  unfold f_X3_trade_HI
  try dsimp only
  repeat' (first | rfl | split)

theorem sd_trade4_P (s : SM) (t u : Int32) : (f_X3_trade4_P s t u).2 = s.2 := by
  unfold f_X3_trade4_P
  try dsimp only
  repeat' (first | rfl | split)

theorem sd_trade4_K (s : SM) (t u : Int32) : (f_X3_trade4_K s t u).2 = s.2 := by
  unfold f_X3_trade4_K
  try dsimp only
  repeat' (first | rfl | split)

theorem sd_wholes (s : SM) (n t : Int32) : (f_X3_wholes s n t).2 = s.2 := by
  unfold f_X3_wholes
  try dsimp only
  repeat' (first | rfl | split)
theorem sd_does (s : SM) (n t u : Int32) : (f_X3_does s n t u).2 = s.2 := by
  unfold f_X3_does
  dsimp only
  by_cases c0 : n = 0
  · rw [if_pos c0]; exact sd_flip _ _
  rw [if_neg c0]
  by_cases c1 : n = 1
  · rw [if_pos c1]; exact sd_stretch _ _ _
  rw [if_neg c1]
  by_cases c2 : n = 2
  · rw [if_pos c2]; exact sd_ease _ _ _
  rw [if_neg c2]
  by_cases c3 : n = 3
  · rw [if_pos c3]; exact sd_wholes _ _ _
  rw [if_neg c3]
  by_cases c4 : n = 4
  · rw [if_pos c4]; exact sd_wholes _ _ _
  rw [if_neg c4]
  by_cases c5 : n = 5
  · rw [if_pos c5]; exact sd_wholes _ _ _
  rw [if_neg c5]
  by_cases c6 : n = 6
  · rw [if_pos c6]; exact sd_lean _ _
  rw [if_neg c6]
  by_cases c7 : n = 7
  · rw [if_pos c7]; exact sd_mirror _ _ _
  rw [if_neg c7]
  by_cases c8 : n = 8
  · rw [if_pos c8]
  rw [if_neg c8]
  by_cases c9 : n = 9
  · rw [if_pos c9]; exact sd_stops _ _ _
  rw [if_neg c9]
  by_cases c10 : n = 10
  · rw [if_pos c10]; exact sd_gather _ _
  rw [if_neg c10]
  by_cases c11 : n = 11
  · rw [if_pos c11, sd_trade_HI, sd_trade_LO, sd_trade_T, sd_trade4_K, sd_trade4_P, sd_trade_L]
  rw [if_neg c11]
  by_cases c12 : n = 12
  · rw [if_pos c12]; exact sd_climb _ _
  rw [if_neg c12]
  by_cases c13 : n = 13
  · rw [if_pos c13]
  rw [if_neg c13]
  by_cases c14 : n = 14
  · rw [if_pos c14]
  rw [if_neg c14]
