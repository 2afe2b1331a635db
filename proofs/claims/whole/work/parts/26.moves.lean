/-! each move: the class's threads and bar become the reference's; its counts are what changed -/
def CntOK (c c' : Cor) (a b d e : Int32) : Prop := a = ts (nL c'.1.1 c.1.1) 8 ∧ b = ts (nN c'.1.2.1 c.1.2.1) 8 ∧ d = ts (nN c'.1.2.2.1 c.1.2.2.1) 8 ∧ e = ts (nL c'.1.2.2.2.1 c.1.2.2.2.1) 8
def numC (c : Cor) : Prop := (∀ k, okL (c.1.1 k)) ∧ (∀ k, okL (c.1.2.2.2.2.1 k)) ∧ (∀ k, okL (c.1.2.2.2.2.2 k)) ∧ okL c.2.1
theorem cn4 {c : Cor} {t : Nat} {x : Int64} {p k : Int32} {w : Int64} (ht : t < 8) : CntOK c (uT (uK (uP (uL c t x) t p) t k) t w) (0 + neL (c.1.1 t) x) (0 + neI (c.1.2.1 t) p) (0 + neI (c.1.2.2.1 t) k) (0 + neL (c.1.2.2.2.1 t) w) := by
  simp only [Int32.zero_add]
  exact ⟨(ct_L ht).symm, (ct_N ht).symm, (ct_N ht).symm, (ct_L ht).symm⟩
theorem cn2 {c : Cor} {t : Nat} {x : Int64} {p : Int32} (ht : t < 8) : CntOK c (uP (uL c t x) t p) (0 + neL (c.1.1 t) x) (0 + neI (c.1.2.1 t) p) 0 0 := by
  simp only [Int32.zero_add]
  exact ⟨(ct_L ht).symm, (ct_N ht).symm, ct_N0.symm, ct_L0.symm⟩
theorem cn1 {c : Cor} {t : Nat} {x : Int64} (ht : t < 8) : CntOK c (uL c t x) (0 + neL (c.1.1 t) x) 0 0 0 := by
  simp only [Int32.zero_add]
  exact ⟨(ct_L ht).symm, ct_N0.symm, ct_N0.symm, ct_L0.symm⟩
theorem cnK {c : Cor} {t : Nat} {k : Int32} (ht : t < 8) : CntOK c (uK c t k) 0 0 (0 + neI (c.1.2.2.1 t) k) 0 := by
  simp only [Int32.zero_add]
  exact ⟨ct_L0.symm, ct_N0.symm, (ct_N ht).symm, ct_L0.symm⟩
theorem cnT {c : Cor} {t : Nat} {w : Int64} (ht : t < 8) : CntOK c (uT c t w) 0 0 0 (0 + neL (c.1.2.2.2.1 t) w) := by
  simp only [Int32.zero_add]
  exact ⟨ct_L0.symm, ct_N0.symm, ct_N0.symm, (ct_L ht).symm⟩
theorem cnKT {c : Cor} {t : Nat} {k : Int32} {w : Int64} (ht : t < 8) : CntOK c (uT (uK c t k) t w) 0 0 (0 + neI (c.1.2.2.1 t) k) (0 + neL (c.1.2.2.2.1 t) w) := by
  simp only [Int32.zero_add]
  exact ⟨ct_L0.symm, ct_N0.symm, (ct_N ht).symm, (ct_L ht).symm⟩
theorem cn0 {c c' : Cor} (h1 : c'.1.1 = c.1.1) (h2 : c'.1.2.1 = c.1.2.1) (h3 : c'.1.2.2.1 = c.1.2.2.1) (h4 : c'.1.2.2.2.1 = c.1.2.2.2.1) : CntOK c c' 0 0 0 0 := by
  unfold CntOK
  rw [h1, h2, h3, h4]
  exact ⟨ct_L0.symm, ct_N0.symm, ct_N0.symm, ct_L0.symm⟩
theorem in8 {t : Int32} (h : vp_in t 8) : t.toNatClampNeg < 8 := Nat.not_le.mp (fun q => h (Or.inr q))
theorem ab_i (x : Int32) : (if 0 ≤ x then x else 0 - x) = (if 0 ≤ x then x else -x) := by rw [Int32.zero_sub]
theorem ab_l (x : Int64) : (if 0 < x then x else -x) = (if 0 ≤ x then x else -x) := by
  by_cases h : 0 < x
  · rw [if_pos h, if_pos (Int64.le_of_lt h)]
  · rw [if_neg h]
    by_cases h2 : 0 ≤ x
    · have e : x = 0 := Int64.le_antisymm (Int64.not_lt.mp h) h2
      rw [if_pos h2, e]
      rfl
    · rw [if_neg h2]
theorem mx_i (x y : Int32) : (if x < y then y else x) = (if y ≤ x then x else y) := by
  by_cases h : x < y
  · rw [if_pos h, if_neg (Int32.not_le.mpr h)]
  · rw [if_neg h, if_pos (Int32.not_lt.mp h)]
theorem mn_i (x y : Int32) : (if y < x then y else x) = (if x ≤ y then x else y) := by
  by_cases h : y < x
  · rw [if_pos h, if_neg (Int32.not_le.mpr h)]
  · rw [if_neg h, if_pos (Int32.not_lt.mp h)]
theorem mx_l (x y : Int64) : (if y < x then x else y) = (if y ≤ x then x else y) := by
  by_cases h : y < x
  · rw [if_pos h, if_pos (Int64.le_of_lt h)]
  · rw [if_neg h]
    by_cases h2 : y ≤ x
    · rw [if_pos h2]; exact Int64.le_antisymm h2 (Int64.not_lt.mp h)
    · rw [if_neg h2]
theorem mn_l (x y : Int64) : (if y < x then y else x) = (if x ≤ y then x else y) := by
  by_cases h : y < x
  · rw [if_pos h, if_neg (Int64.not_le.mpr h)]
  · rw [if_neg h, if_pos (Int64.not_lt.mp h)]
/-- the reference's moves on threads and bar -/
theorem r_flip (m : SM) (t : Int32) : (f_X3_flip m t).1 = uT (uK (uP (uL m.1 t.toNatClampNeg (f_X1_amount (gM_L m t.toNatClampNeg))) t.toNatClampNeg (f_X1_shortAmount (gM_P m t.toNatClampNeg))) t.toNatClampNeg (if 0 ≤ gM_K m t.toNatClampNeg then gM_K m t.toNatClampNeg else -gM_K m t.toNatClampNeg)) t.toNatClampNeg (if 0 ≤ gM_T m t.toNatClampNeg then gM_T m t.toNatClampNeg else -gM_T m t.toNatClampNeg) := by
  unfold f_X3_flip
  by_cases h1 : 0 ≤ gM_K m t.toNatClampNeg <;> by_cases h2 : 0 ≤ gM_T m t.toNatClampNeg <;> simp only [h1, h2, if_true, if_false] <;> rfl
theorem r_stretch (m : SM) (t u : Int32) : (f_X3_stretch m t u).1 = uT (uK (uP (uL m.1 t.toNatClampNeg (f_X1_greater (gM_L m t.toNatClampNeg) (gM_L m u.toNatClampNeg))) t.toNatClampNeg (f_X1_shortGreater (gM_P m t.toNatClampNeg) (gM_P m u.toNatClampNeg))) t.toNatClampNeg (if gM_K m u.toNatClampNeg ≤ gM_K m t.toNatClampNeg then gM_K m t.toNatClampNeg else gM_K m u.toNatClampNeg)) t.toNatClampNeg (if gM_T m u.toNatClampNeg ≤ gM_T m t.toNatClampNeg then gM_T m t.toNatClampNeg else gM_T m u.toNatClampNeg) := by
  unfold f_X3_stretch
  by_cases h1 : gM_K m u.toNatClampNeg ≤ gM_K m t.toNatClampNeg <;> by_cases h2 : gM_T m u.toNatClampNeg ≤ gM_T m t.toNatClampNeg <;> simp only [h1, h2, if_true, if_false] <;> rfl
theorem r_ease (m : SM) (t u : Int32) : (f_X3_ease m t u).1 = uT (uK (uP (uL m.1 t.toNatClampNeg (f_X1_lesser (gM_L m t.toNatClampNeg) (gM_L m u.toNatClampNeg))) t.toNatClampNeg (f_X1_shortLesser (gM_P m t.toNatClampNeg) (gM_P m u.toNatClampNeg))) t.toNatClampNeg (if gM_K m t.toNatClampNeg ≤ gM_K m u.toNatClampNeg then gM_K m t.toNatClampNeg else gM_K m u.toNatClampNeg)) t.toNatClampNeg (if gM_T m t.toNatClampNeg ≤ gM_T m u.toNatClampNeg then gM_T m t.toNatClampNeg else gM_T m u.toNatClampNeg) := by
  unfold f_X3_ease
  by_cases h1 : gM_K m t.toNatClampNeg ≤ gM_K m u.toNatClampNeg <;> by_cases h2 : gM_T m t.toNatClampNeg ≤ gM_T m u.toNatClampNeg <;> simp only [h1, h2, if_true, if_false] <;> rfl
/-- what is claimed of a move: c' is the reference's core -/
def MvOK (s : SB) (c : Cor) (r : SB) (c' : Cor) : Prop := ∃ a b d e : Int32, r = NB s c' a b d e ∧ CntOK c c' a b d e
theorem v_flip (s : SB) (c : Cor) (m : SM) (hc : m.1 = c) (t : Int32) (ht : vp_in t 8) : MvOK s c (f_X2_flip (NB s c 0 0 0 0) t) (f_X3_flip m t).1 := by
  subst hc
  rw [r_flip]
  unfold f_X2_flip
  dsimp only
  rw [chL, chP, chK, chT, ab_i, ab_l]
  exact ⟨_, _, _, _, rfl, cn4 (in8 ht)⟩
theorem v_stretch (s : SB) (c : Cor) (m : SM) (hc : m.1 = c) (t u : Int32) (ht : vp_in t 8) : MvOK s c (f_X2_stretch (NB s c 0 0 0 0) t u) (f_X3_stretch m t u).1 := by
  subst hc
  rw [r_stretch]
  unfold f_X2_stretch
  dsimp only
  rw [chL, chP, chK, chT, mx_i, mx_l]
  exact ⟨_, _, _, _, rfl, cn4 (in8 ht)⟩
theorem v_ease (s : SB) (c : Cor) (m : SM) (hc : m.1 = c) (t u : Int32) (ht : vp_in t 8) : MvOK s c (f_X2_ease (NB s c 0 0 0 0) t u) (f_X3_ease m t u).1 := by
  subst hc
  rw [r_ease]
  unfold f_X2_ease
  dsimp only
  rw [chL, chP, chK, chT, mn_i, mn_l]
  exact ⟨_, _, _, _, rfl, cn4 (in8 ht)⟩
