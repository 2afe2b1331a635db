theorem and_m2 (a b : Nat) : (a &&& b) % 2 = (a % 2) * (b % 2) := by
  have h := Nat.and_mod_two_pow (a := a) (b := b) (n := 1)
  rw [Nat.pow_one] at h
  rw [h]
  rcases Nat.mod_two_eq_zero_or_one a with e | e <;> rcases Nat.mod_two_eq_zero_or_one b with f | f <;> rw [e, f] <;> rfl
def hfN (W B m : Nat) : Nat := if m = (2 * B + 1) * 2 ^ W then m else if m < 2 * 2 ^ W then m / 2 + (m % 2) * (m / 2 % 2) else m - 2 ^ W
theorem one_W {W : Nat} (hW : W < 64) : (1 : Int64) <<< (Int32.toInt64 (nI W) &&& 63) = lN (2 ^ W) := one_shl hW
theorem l_odd {m : Nat} (hm : m < 2 ^ 63) : (lN m &&& 1) = 0 ↔ m % 2 = 0 := by
  rw [wb_a1 (by omega)]
  exact pk_lEQ (b := 0) (by omega) (by decide)
theorem le_1 {a : Nat} (ha : a < 2 ^ 63) : lN a ≤ 1 ↔ a ≤ 1 := pk_lLE (b := 1) ha (by decide)
theorem c_half {W B m : Nat} (h : okW W B) (hm : m < 2 ^ sgE W) : f_X1_half (lN m) (nI W) (lN ((2 * B + 1) * 2 ^ W)) = lN (hfN W B m) := by
  obtain ⟨hW, hB, hB0, hT, hS, hE, hE2⟩ := okW_n h
  have hm6 : m < 2 ^ 63 := by omega
  have hBW : 2 * 2 ^ W ≤ (2 * B + 1) * 2 ^ W := Nat.mul_le_mul_right _ (by omega)
  unfold f_X1_half hfN
  dsimp only
  rw [one_W hW]
  have e0 : (2 : Int64) * lN (2 ^ W) = lN (2 * 2 ^ W) := lN_mul 2 _
  rw [e0]
  by_cases c1 : m = (2 * B + 1) * 2 ^ W
  · rw [if_pos (show lN m = lN ((2 * B + 1) * 2 ^ W) by rw [← c1]), if_pos c1]
  · rw [if_neg (fun c => c1 ((pk_lEQ hm6 (by omega)).mp c)), if_neg c1]
    by_cases c2 : m < 2 * 2 ^ W
    · rw [if_pos ((pk_lLT hm6 (by omega)).mpr c2), if_pos c2, shr1 hm6]
      by_cases c3 : m % 2 = 0
      · rw [if_pos ((l_odd hm6).mpr c3), c3, Nat.zero_mul, Nat.add_zero]
      · rw [if_neg (fun c => c3 ((l_odd hm6).mp c)), wb_a1 (by omega), lN_add, show m % 2 = 1 by omega, Nat.one_mul]
    · rw [if_neg (fun c => c2 ((pk_lLT hm6 (by omega)).mp c)), if_neg c2, lN_sub (by omega)]
theorem m_half {W B m σ : Nat} (h : okW W B) (hm : m < 2 ^ sgE W) (hσ : σ = 0 ∨ σ = 2 ^ sgE W) : f_X3_half (lN (m + σ)) (nI W) = lN (hfN W B m + σ) := by
  obtain ⟨hW, hB, hB0, hT, hS, hE, hE2⟩ := okW_n h
  have hm6 : m < 2 ^ 63 := by omega
  have hor : ∀ x, x < 2 ^ sgE W → lN σ ||| lN x = lN (x + σ) := fun x hx => by rw [Int64.or_comm]; exact l_put hx hσ
  unfold f_X3_half hfN
  dsimp only
  rw [m_amt h hm hσ, m_end h, m_sign h, l_get hm hσ, one_W hW, sh63 hm6 hW]
  by_cases c1 : m = (2 * B + 1) * 2 ^ W
  · rw [if_pos (show lN m = lN ((2 * B + 1) * 2 ^ W) by rw [← c1]), if_pos c1]
  · rw [if_neg (fun c => c1 ((pk_lEQ hm6 (by omega)).mp c)), if_neg c1]
    by_cases c2 : m < 2 * 2 ^ W
    · have c3 := q_lt.mp c2
      rw [if_pos ((le_1 (by omega)).mpr (show m / 2 ^ W ≤ 1 by omega)), if_pos c2, shr1 hm6, wb_and (by omega) (by omega), wb_a1 (Nat.lt_of_le_of_lt Nat.and_le_left (by omega)), lN_add, and_m2]
      apply hor
      rcases Nat.mod_two_eq_zero_or_one m with e | e <;> rcases Nat.mod_two_eq_zero_or_one (m / 2) with f | f <;> rw [e, f] <;> omega
    · have c3 : ¬ m / 2 ^ W < 2 := fun c => c2 (q_lt.mpr c)
      have hq := okW_q h hm
      rw [if_neg (fun c => c3 (by have := (le_1 (show m / 2 ^ W < 2 ^ 63 by omega)).mp c; omega)), if_neg c2, lN_sub (by omega)]
      congr 1
      omega
def twN (W B m : Nat) : Nat := if m / 2 ^ W < 2 * B then (if m / 2 ^ W = 0 then 2 * m else m + 2 ^ W) else (2 * B + 1) * 2 ^ W
theorem c_twice {W B m : Nat} (h : okW W B) (hi : m + 2 ^ W < 2 ^ 63) : f_X1_twice (lN m) (nI W) (lN ((2 * B + 1) * 2 ^ W)) = lN (twN W B m) := by
  obtain ⟨hW, hB, hB0, hT, hS, hE, hE2⟩ := okW_n h
  have hm6 : m < 2 ^ 63 := Nat.lt_of_le_of_lt (Nat.le_add_right m _) hi
  have hmul : (2 * B + 1) * 2 ^ W = 2 * B * 2 ^ W + 2 ^ W := by rw [Nat.add_mul, Nat.one_mul]
  have hmul2 : (2 * B + 2) * 2 ^ W = 2 * B * 2 ^ W + 2 * 2 ^ W := by rw [Nat.add_mul]
  have hBW : 2 * 2 ^ W ≤ 2 * B * 2 ^ W := Nat.mul_le_mul_right _ (by omega)
  have hPp := Nat.two_pow_pos W
  unfold f_X1_twice twN
  dsimp only
  rw [one_W hW, shl1, lN_add]
  by_cases c1 : m = (2 * B + 1) * 2 ^ W
  · have c2 : ¬ m / 2 ^ W < 2 * B := fun c => by have := q_lt.mpr c; omega
    rw [if_pos (show lN m = lN ((2 * B + 1) * 2 ^ W) by rw [← c1]), if_neg c2, c1]
  · rw [if_neg (fun c => c1 ((pk_lEQ hm6 (by omega)).mp c))]
    by_cases c2 : m / 2 ^ W < 2 * B
    · have c4 := q_lt.mpr c2
      rw [if_pos c2]
      by_cases c3 : m / 2 ^ W = 0
      · have c5 : m < 2 ^ W := by have := (q_lt (W := W) (m := m) (c := 1)).mpr (by omega); omega
        rw [if_pos c3, if_neg (fun c => absurd ((pk_lLE (by omega) hm6).mp c) (by omega)), Nat.mul_comm]
      · have c5 : 2 ^ W ≤ m := Nat.not_lt.mp (fun c => c3 (Nat.div_eq_of_lt c))
        rw [if_neg c3, if_pos ((pk_lLE (by omega) hm6).mpr c5), if_pos ((pk_lLE (by omega) (by omega)).mpr (by omega))]
    · have c4 : 2 * B * 2 ^ W ≤ m := Nat.not_lt.mp (fun c => c2 (q_lt.mp c))
      rw [if_neg c2, if_pos ((pk_lLE (by omega) hm6).mpr (by omega))]
      by_cases c5 : m + 2 ^ W ≤ (2 * B + 1) * 2 ^ W
      · rw [if_pos ((pk_lLE (by omega) (by omega)).mpr c5)]
        congr 1
        omega
      · rw [if_neg (fun c => c5 ((pk_lLE (by omega) (by omega)).mp c))]
theorem m_twice {W B m σ : Nat} (h : okW W B) (hm : m < 2 ^ sgE W) (hσ : σ = 0 ∨ σ = 2 ^ sgE W) : f_X3_twice (lN (m + σ)) (nI W) = lN (twN W B m + σ) := by
  obtain ⟨hW, hB, hB0, hT, hS, hE, hE2⟩ := okW_n h
  have hm6 : m < 2 ^ 63 := by omega
  have hq := okW_q h hm
  have hor : ∀ x, x < 2 ^ sgE W → lN σ ||| lN x = lN (x + σ) := fun x hx => by rw [Int64.or_comm]; exact l_put hx hσ
  have hmul : (2 * B + 1) * 2 ^ W = 2 * B * 2 ^ W + 2 ^ W := by rw [Nat.add_mul, Nat.one_mul]
  have hBW : 2 * 2 ^ W ≤ 2 * B * 2 ^ W := Nat.mul_le_mul_right _ (by omega)
  unfold f_X3_twice twN
  dsimp only
  have e0 : (2 : Int64) * lN B = lN (2 * B) := lN_mul 2 _
  have e1 : (2 : Int64) * lN m = lN (2 * m) := lN_mul 2 _
  rw [m_amt h hm hσ, m_end h, m_sign h, l_get hm hσ, one_W hW, sh63 hm6 hW, m_bias h, e0, e1, lN_add]
  by_cases c2 : m / 2 ^ W < 2 * B
  · have c4 := q_lt.mpr c2
    rw [if_pos ((pk_lLT (by omega) (by omega)).mpr c2), if_pos c2]
    by_cases c3 : m / 2 ^ W = 0
    · have c5 : m < 2 ^ W := by have := (q_lt (W := W) (m := m) (c := 1)).mpr (by omega); omega
      rw [if_pos (show lN (m / 2 ^ W) = 0 by rw [c3]; rfl), if_pos c3]
      exact hor _ (by omega)
    · rw [if_neg (lN_ne0 (by omega) c3), if_neg c3]
      exact hor _ (by omega)
  · rw [if_neg (fun c => c2 ((pk_lLT (by omega) (by omega)).mp c)), if_neg c2]
    exact hor _ (by omega)
