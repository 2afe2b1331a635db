theorem lN_inj {a b : Nat} (ha : a < 2 ^ 64) (hb : b < 2 ^ 64) (h : lN a = lN b) : a = b := by
  have := congrArg (fun x : Int64 => x.toBitVec.toNat) h
  simp only [wb_tn ha, wb_tn hb] at this
  exact this
theorem sub_lt0 {a b : Nat} (ha : a < 2 ^ 63) (hb : b < 2 ^ 63) : lN a - lN b < 0 ↔ a < b := by
  constructor
  · intro h
    rcases Nat.lt_or_ge a b with h1 | h1
    · exact h1
    · rw [lN_sub h1] at h
      exact absurd ((pk_lLT (by omega) (by decide)).mp (show lN (a - b) < lN 0 from h)) (by omega)
  · intro h
    refine Int64.not_le.mp (fun c => ?_)
    obtain ⟨k, hk, e⟩ := pk_lOf (Int64.not_lt.mpr c)
    have e2 : lN a = lN (k + b) := by rw [← lN_add, ← e, Int64.sub_add_cancel]
    have := lN_inj (by omega) (by omega) e2
    omega
theorem sub_eq0 {a b : Nat} (ha : a < 2 ^ 63) (hb : b < 2 ^ 63) : lN a - lN b = 0 ↔ a = b := by
  constructor
  · intro h
    have e2 : lN a = lN b := by
      have e := Int64.sub_add_cancel (lN a) (lN b)
      rw [h, Int64.zero_add] at e
      exact e.symm
    exact lN_inj (by omega) (by omega) e2
  · intro h
    rw [h, Int64.sub_self]
theorem shr1 {a : Nat} (ha : a < 2 ^ 63) : lN a >>> (Int32.toInt64 1 &&& 63) = lN (a / 2) := sh63 (k := 1) ha (by decide)
theorem shl1 (a : Nat) : lN a <<< (Int32.toInt64 1 &&& 63) = lN (a * 2) := wb_shl a (k := 1) (by decide)
def nnN (W B m : Nat) : Nat := if B ≤ m / 2 ^ W then (if m / 2 ^ W < B + W then (if 2 ^ (W + B - m / 2 ^ W) < 2 * (m % 2 ^ (W + B - m / 2 ^ W)) ∨ (2 * (m % 2 ^ (W + B - m / 2 ^ W)) = 2 ^ (W + B - m / 2 ^ W) ∧ ¬ lN (m - m % 2 ^ (W + B - m / 2 ^ W)) &&& lN (2 ^ (W + B - m / 2 ^ W)) = 0) then m - m % 2 ^ (W + B - m / 2 ^ W) + 2 ^ (W + B - m / 2 ^ W) else m - m % 2 ^ (W + B - m / 2 ^ W)) else m) else if (B - 1) * 2 ^ W < m then B * 2 ^ W else 0
theorem c_near {W B m : Nat} (h : okW W B) (hm : m < 2 ^ sgE W) : f_X1_wholeNear (lN m) (nI W) (nI B) = lN (nnN W B m) := by
  obtain ⟨hW, hB, hB0, hT, hS, hE, -⟩ := okW_n h
  have hq := okW_q h hm
  have hm6 : m < 2 ^ 63 := by omega
  have hle := wb_le W B m
  have hx13 : (Int32.toInt64 (nI B - 1)) <<< (Int32.toInt64 (nI W) &&& 63) = lN ((B - 1) * 2 ^ W) := by rcases h with ⟨rfl, rfl⟩ | ⟨rfl, rfl⟩ <;> decide
  have hB1 : (B - 1) * 2 ^ W ≤ (B + W) * 2 ^ W := Nat.mul_le_mul_right _ (by omega)
  unfold f_X1_wholeNear
  dsimp only
  rw [c_wb h hm6 hq, pw_eq h hm6, hx13]
  unfold nnN
  by_cases h1 : B ≤ m / 2 ^ W
  · rw [if_pos h1]
    by_cases h2 : m / 2 ^ W < B + W
    · rw [if_pos h2]
      have e1 := wb_q h1 h2
      have hPp := Nat.two_pow_pos (W + B - m / 2 ^ W)
      have hrl := Nat.mod_lt m hPp
      have hml := Nat.mod_le m (2 ^ (W + B - m / 2 ^ W))
      have hfp := fP_le (W := W) (B := B) (m := m) h1 h2
      have hev : 2 ^ (W + B - m / 2 ^ W) = 2 * (2 ^ (W + B - m / 2 ^ W) / 2) := by
        have : 2 ^ (W + B - m / 2 ^ W) = 2 * 2 ^ (W + B - m / 2 ^ W - 1) := by rw [← Nat.pow_succ']; congr 1; omega
        omega
      by_cases h3 : m % 2 ^ (W + B - m / 2 ^ W) = 0
      · rw [if_pos (by rw [e1, h3, Nat.sub_zero]), h3, if_neg (by omega), Nat.sub_zero]
      · rw [if_neg (show ¬ lN (wbN W B m) = lN m from fun c => h3 (by have := (pk_lEQ (show wbN W B m < 2 ^ 63 by omega) hm6).mp c; omega)), if_pos ((pw_ge h hq).mpr h1), pk_sub h1, pk_sub (show m / 2 ^ W - B ≤ W by omega), show W - (m / 2 ^ W - B) = W + B - m / 2 ^ W by omega, one_shl (by omega), e1]
        have e2 : (m - m % 2 ^ (W + B - m / 2 ^ W)) / 2 ^ W = m / 2 ^ W := md_q (by omega)
        have e3 : m - m % 2 ^ (W + B - m / 2 ^ W) ≠ 0 := fun e => by rw [e] at e2; simp at e2; omega
        have e4 : lN m - lN (m - m % 2 ^ (W + B - m / 2 ^ W)) = lN (m % 2 ^ (W + B - m / 2 ^ W)) := by
          rw [lN_sub (by omega)]; congr 1; have := Nat.mod_le m (2 ^ (W + B - m / 2 ^ W)); omega
        have e5 := c_nx h (x := m - m % 2 ^ (W + B - m / 2 ^ W)) (by omega) e3 (by omega) (by omega)
        rw [e2] at e5
        rw [e4, shr1 (by omega), e5]
        generalize 2 ^ (W + B - m / 2 ^ W) = P at *
        by_cases c1 : lN (m - m % P) &&& lN P = 0
        · rw [if_pos c1]
          by_cases c2 : m % P < P / 2
          · rw [if_pos ((sub_lt0 (by omega) (by omega)).mpr c2), if_neg (by omega)]
          · rw [if_neg (fun c => c2 ((sub_lt0 (by omega) (by omega)).mp c))]
            by_cases c3 : m % P = P / 2
            · rw [if_pos ((sub_eq0 (by omega) (by omega)).mpr c3), if_neg (fun c => by rcases c with c | ⟨-, c⟩; omega; exact c c1)]
            · rw [if_neg (fun c => c3 ((sub_eq0 (by omega) (by omega)).mp c)), if_pos (Or.inl (by omega))]
        · rw [if_neg c1]
          by_cases c2 : m % P < P / 2
          · rw [if_pos ((sub_lt0 (by omega) (by omega)).mpr c2), if_neg (by omega)]
          · rw [if_neg (fun c => c2 ((sub_lt0 (by omega) (by omega)).mp c)), ite_self]
            by_cases c3 : m % P = P / 2
            · rw [if_pos (Or.inr ⟨by omega, c1⟩)]
            · rw [if_pos (Or.inl (by omega))]
    · rw [if_neg h2, if_pos (by unfold wbN; rw [if_pos h1, if_neg h2])]
  · rw [if_neg h1]
    have e1 : wbN W B m = 0 := by unfold wbN; rw [if_neg h1]
    rw [e1]
    by_cases h0 : m = 0
    · subst h0
      rw [if_pos rfl, if_neg (by omega)]
    · rw [if_neg (fun c => h0 ((pk_lEQ (by decide) hm6).mp c).symm), if_neg (fun c => h1 ((pw_ge h hq).mp c))]
      have e6 : f_X1_nextWhole 0 (nI W) (nI B) = lN (B * 2 ^ W) := c_nx0 h
      rw [e6]
      by_cases c1 : (B - 1) * 2 ^ W < m
      · rw [if_pos ((pk_lLT (by omega) hm6).mpr c1), if_pos c1]
      · rw [if_neg (fun c => c1 ((pk_lLT (by omega) hm6).mp c)), if_neg c1]
        rfl
theorem m_near {W B m σ : Nat} (h : okW W B) (hm : m < 2 ^ sgE W) (hσ : σ = 0 ∨ σ = 2 ^ sgE W) : f_X3_near (lN (m + σ)) (nI W) = lN (nnN W B m + σ) := by
  obtain ⟨hW, hB, hB0, hT, hS, hE, -⟩ := okW_n h
  have hq := okW_q h hm
  have hm6 : m < 2 ^ 63 := by omega
  have hor : ∀ x, x < 2 ^ sgE W → lN σ ||| lN x = lN (x + σ) := fun x hx => by rw [Int64.or_comm]; exact l_put hx hσ
  have hB6 : B * 2 ^ W ≤ (B + W) * 2 ^ W := Nat.mul_le_mul_right _ (by omega)
  have hB1 : (B - 1) * 2 ^ W ≤ (B + W) * 2 ^ W := Nat.mul_le_mul_right _ (by omega)
  have hone : lN (B * 2 ^ W) - ((1 : Int64) <<< (Int32.toInt64 (nI W) &&& 63)) = lN ((B - 1) * 2 ^ W) := by rcases h with ⟨rfl, rfl⟩ | ⟨rfl, rfl⟩ <;> decide
  unfold f_X3_near
  dsimp only
  rw [m_amt h hm hσ, m_top h, m_one h, m_sign h, l_get hm hσ, hone]
  unfold nnN
  by_cases h2 : m / 2 ^ W < B + W
  · rw [if_pos ((pk_lLT hm6 (by omega)).mpr (q_lt.mpr h2))]
    by_cases h1 : B ≤ m / 2 ^ W
    · have hPp := Nat.two_pow_pos (W + B - m / 2 ^ W)
      have hrl := Nat.mod_lt m hPp
      have hfp := fP_le (W := W) (B := B) (m := m) h1 h2
      rw [if_pos ((pk_lLE (by omega) hm6).mpr (Nat.not_lt.mp (fun c => absurd (q_lt.mp c) (by omega)))), m_rest h hm6 h1 h2, lN_m1, clr (by omega), wb_mask (by omega) (by omega), if_pos h1, if_pos h2]
      have e1 : lN (2 ^ (W + B - m / 2 ^ W) - 1) + 1 = lN (2 ^ (W + B - m / 2 ^ W)) := by rw [lN_1]; congr 1; omega
      have e2 : (2 : Int64) * lN (m % 2 ^ (W + B - m / 2 ^ W)) = lN (2 * (m % 2 ^ (W + B - m / 2 ^ W))) := lN_mul 2 _
      have e3 : lN (m - m % 2 ^ (W + B - m / 2 ^ W)) + lN (2 ^ (W + B - m / 2 ^ W) - 1) + 1 = lN (m - m % 2 ^ (W + B - m / 2 ^ W) + 2 ^ (W + B - m / 2 ^ W)) := by rw [lN_add, lN_1]; congr 1; omega
      rw [e1, e2, e3]
      have hP52 : 2 ^ (W + B - m / 2 ^ W) ≤ 2 ^ 52 := Nat.pow_le_pow_right (by decide) (by rcases h with ⟨rfl, rfl⟩ | ⟨rfl, rfl⟩ <;> omega)
      generalize 2 ^ (W + B - m / 2 ^ W) = P at *
      rw [hor _ (show m - m % P + P < 2 ^ sgE W by omega), hor _ (show m - m % P < 2 ^ sgE W by omega)]
      by_cases c2 : P < 2 * (m % P)
      · have l1 : lN P < lN (2 * (m % P)) := (pk_lLT (by omega) (by omega)).mpr c2
        rw [if_pos (Or.inl c2)]
        simp only [l1, if_true, ite_self]
      · have l1 : ¬ lN P < lN (2 * (m % P)) := fun c => c2 ((pk_lLT (by omega) (by omega)).mp c)
        simp only [l1, if_false]
        by_cases c3 : 2 * (m % P) = P
        · have l2 : lN (2 * (m % P)) = lN P := by rw [c3]
          simp only [l2, if_true]
          by_cases c1 : lN (m - m % P) &&& lN P = 0
          · rw [if_pos c1, if_neg (fun c => by rcases c with c | ⟨-, c⟩; exact c2 c; exact c c1)]
          · rw [if_neg c1, if_pos (Or.inr ⟨c3, c1⟩)]
        · have l2 : ¬ lN (2 * (m % P)) = lN P := fun c => c3 ((pk_lEQ (by omega) (by omega)).mp c)
          simp only [l2, if_false, ite_self]
          rw [if_neg (fun c => by rcases c with c | ⟨c, -⟩; exact c2 c; exact c3 c)]
    · rw [if_neg (fun c => h1 (Nat.not_lt.mp (fun c2 => absurd ((pk_lLE (by omega) hm6).mp c) (Nat.not_le.mpr (q_lt.mpr c2))))), if_neg h1]
      by_cases c1 : (B - 1) * 2 ^ W < m
      · rw [if_neg (fun c => absurd ((pk_lLE hm6 (by omega)).mp c) (by omega)), if_pos c1]
        exact hor _ (by omega)
      · rw [if_pos ((pk_lLE hm6 (by omega)).mpr (by omega)), if_neg c1, Nat.zero_add]
  · rw [if_neg (fun c => h2 (q_lt.mp ((pk_lLT hm6 (by omega)).mp c))), if_pos (show B ≤ m / 2 ^ W by omega), if_neg h2]
