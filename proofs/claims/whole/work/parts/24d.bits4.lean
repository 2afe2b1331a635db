/-! both widths: the class's answers are the reference's -/
theorem ok52 : okW 52 1023 := Or.inl ⟨rfl, rfl⟩
theorem ok23 : okW 23 127 := Or.inr ⟨rfl, rfl⟩
theorem spl (b : Int64) : ∃ m σ : Nat, m < 2 ^ 63 ∧ (σ = 0 ∨ σ = 2 ^ 63) ∧ b = lN (m + σ) ∧ (b < 0 ↔ ¬ σ = 0) := by
  obtain ⟨n, hn, rfl⟩ := wb_of b
  rcases Nat.lt_or_ge n (2 ^ 63) with h | h
  · refine ⟨n, 0, h, Or.inl rfl, rfl, ?_⟩
    constructor
    · intro c
      exact absurd ((pk_lLT h (by decide)).mp (show lN n < lN 0 from c)) (by omega)
    · intro c
      exact absurd rfl c
  · refine ⟨n - 2 ^ 63, 2 ^ 63, by omega, Or.inr rfl, by rw [show n - 2 ^ 63 + 2 ^ 63 = n by omega], ?_⟩
    constructor
    · intro _
      decide
    · intro _
      refine Int64.not_le.mp (fun c => ?_)
      obtain ⟨k, hk, e⟩ := pk_lOf (Int64.not_lt.mpr c)
      have := lN_inj hn (by omega) e
      omega
theorem spi (p : Int32) : ∃ m σ : Nat, m < 2 ^ 31 ∧ (σ = 0 ∨ σ = 2 ^ 31) ∧ p = nI (m + σ) ∧ (p < 0 ↔ ¬ σ = 0) := by
  obtain ⟨n, hn, rfl⟩ := wb_of32 p
  rcases Nat.lt_or_ge n (2 ^ 31) with h | h
  · refine ⟨n, 0, h, Or.inl rfl, rfl, ?_⟩
    constructor
    · intro c
      exact absurd c (nI_pos h)
    · intro c
      exact absurd rfl c
  · refine ⟨n - 2 ^ 31, 2 ^ 31, by omega, Or.inr rfl, by rw [show n - 2 ^ 31 + 2 ^ 31 = n by omega], ?_⟩
    constructor
    · intro _
      decide
    · intro _
      refine Int32.not_le.mp (fun c => ?_)
      obtain ⟨k, hk, e⟩ := nI_of (Int32.not_lt.mpr c)
      have e2 := congrArg (fun x : Int32 => x.toBitVec.toNat) e
      simp only [pk_tn hn, pk_tn (show k < 2 ^ 32 by omega)] at e2
      omega
theorem a52 {m σ : Nat} (hm : m < 2 ^ 63) (hσ : σ = 0 ∨ σ = 2 ^ 63) : f_X1_amount (lN (m + σ)) = lN m := by
  have h := m_amt ok52 (m := m) (σ := σ) hm hσ
  exact h
theorem w52 {x m σ : Nat} (hx : x < 2 ^ 63) (hm : m < 2 ^ 63) (hσ : σ = 0 ∨ σ = 2 ^ 63) : f_X1_withSign (lN x) (lN (m + σ)) = lN (x + σ) := by
  unfold f_X1_withSign
  rw [show (-9223372036854775808 : Int64) = lN (2 ^ 63) by decide, l_get hm hσ, l_put hx hσ]
theorem a23 {m σ : Nat} (hm : m < 2 ^ 31) (hσ : σ = 0 ∨ σ = 2 ^ 31) : Int32.toInt64 (f_X1_shortAmount (nI (m + σ))) = lN m := by
  unfold f_X1_shortAmount
  rw [pk_andN (show m + σ < 2 ^ 32 by omega) 31 (by decide), show (m + σ) % 2 ^ 31 = m by omega, nI_l hm]
theorem w23 {x m σ : Nat} (hx : x < 2 ^ 31) (hm : m < 2 ^ 31) (hσ : σ = 0 ∨ σ = 2 ^ 31) : f_X1_shortWithSign (Int64.toInt32 (lN x)) (nI (m + σ)) = nI (x + σ) := by
  unfold f_X1_shortWithSign
  rw [lN_i, show (-2147483648 : Int32) = nI (2 ^ 31) by decide, i_get hm hσ, i_put hx hσ]
theorem t23 {m σ : Nat} (hm : m < 2 ^ 31) (hσ : σ = 0 ∨ σ = 2 ^ 31) : f_X3_thin (nI (m + σ)) = lN (m + σ) := by
  unfold f_X3_thin
  apply wb_inj
  apply BitVec.eq_of_toNat_eq
  have e1 : (nI (m + σ)).toInt64.toBitVec = (BitVec.ofNat 32 (m + σ)).signExtend 64 := rfl
  have e2 : (4294967295 : Int64).toBitVec = BitVec.ofNat 64 (2 ^ 32 - 1) := by decide
  rw [Int64.toBitVec_and, e1, e2, wb_tb, BitVec.toNat_and, BitVec.toNat_ofNat, BitVec.toNat_ofNat, Nat.mod_eq_of_lt (show 2 ^ 32 - 1 < 2 ^ 64 by decide), Nat.and_two_pow_sub_one_eq_mod, BitVec.toNat_signExtend, BitVec.toNat_setWidth, BitVec.toNat_ofNat]
  split <;> omega
theorem lt_wa {W B m : Nat} (h : okW W B) (hm : m < 2 ^ sgE W) : waN W B m < 2 ^ sgE W := by
  obtain ⟨hW, hB, hB0, hT, hS, hE, -⟩ := okW_n h
  have hB6 : B * 2 ^ W ≤ (B + W) * 2 ^ W := Nat.mul_le_mul_right _ (by omega)
  unfold waN
  split
  · omega
  · split
    · rename_i h1
      split
      · rename_i h2
        rw [up_div (Nat.two_pow_pos _)]
        split
        · exact hm
        · have := fP_le (W := W) (B := B) (m := m) h1 h2
          omega
      · exact hm
    · omega
theorem lt_nn {W B m : Nat} (h : okW W B) (hm : m < 2 ^ sgE W) : nnN W B m < 2 ^ sgE W := by
  obtain ⟨hW, hB, hB0, hT, hS, hE, -⟩ := okW_n h
  have hB6 : B * 2 ^ W ≤ (B + W) * 2 ^ W := Nat.mul_le_mul_right _ (by omega)
  unfold nnN
  split
  · rename_i h1
    split
    · rename_i h2
      have := fP_le (W := W) (B := B) (m := m) h1 h2
      split <;> omega
    · exact hm
  · split <;> omega
theorem lt_hf {W B m : Nat} (hm : m < 2 ^ sgE W) : hfN W B m < 2 ^ sgE W := by
  unfold hfN
  split
  · exact hm
  · split
    · rcases Nat.mod_two_eq_zero_or_one m with e | e <;> rcases Nat.mod_two_eq_zero_or_one (m / 2) with f | f <;> rw [e, f] <;> omega
    · omega
theorem lt_tw {W B m : Nat} (h : okW W B) : twN W B m < 2 ^ sgE W := by
  obtain ⟨hW, hB, hB0, hT, hS, hE, hE2⟩ := okW_n h
  have hmul : (2 * B + 1) * 2 ^ W = 2 * B * 2 ^ W + 2 ^ W := by rw [Nat.add_mul, Nat.one_mul]
  have hBW : 2 * 2 ^ W ≤ 2 * B * 2 ^ W := Nat.mul_le_mul_right _ (by omega)
  unfold twN
  split
  · rename_i c2
    have c4 := q_lt.mpr c2
    split
    · rename_i c3
      have c5 : m < 2 ^ W := by have := (q_lt (W := W) (m := m) (c := 1)).mpr (by omega); omega
      omega
    · omega
  · omega
theorem lt_wb {W B m : Nat} (hm : m < 2 ^ sgE W) : wbN W B m < 2 ^ sgE W := Nat.lt_of_le_of_lt (wb_le W B m) hm
theorem e_down52 (b : Int64) : f_X1_withSign (if b < 0 then f_X1_wholeAbove (f_X1_amount b) 52 1023 else f_X1_wholeBelow (f_X1_amount b) 52 1023) b = f_X3_down b 52 := by
  obtain ⟨m, σ, hm, hσ, rfl, hn⟩ := spl b
  have q := okW_q ok52 hm
  have e1 : f_X1_wholeAbove (lN m) 52 1023 = lN (waN 52 1023 m) := c_wa ok52 hm q
  have e2 : f_X1_wholeBelow (lN m) 52 1023 = lN (wbN 52 1023 m) := c_wb ok52 hm q
  have e3 : f_X3_down (lN (m + σ)) 52 = _ := m_down ok52 hm hσ
  rw [a52 hm hσ, e1, e2, e3]
  by_cases c : σ = 0
  · rw [if_neg (fun d => (hn.mp d) c), if_pos c, w52 (lt_wb hm) hm hσ]
  · rw [if_pos (hn.mpr c), if_neg c, w52 (lt_wa ok52 hm) hm hσ]
theorem e_down23 (p : Int32) : f_X1_shortWithSign (Int64.toInt32 (if p < 0 then f_X1_wholeAbove (Int32.toInt64 (f_X1_shortAmount p)) 23 127 else f_X1_wholeBelow (Int32.toInt64 (f_X1_shortAmount p)) 23 127)) p = Int64.toInt32 (f_X3_down (f_X3_thin p) 23) := by
  obtain ⟨m, σ, hm, hσ, rfl, hn⟩ := spi p
  have q := okW_q ok23 hm
  have e1 : f_X1_wholeAbove (lN m) 23 127 = lN (waN 23 127 m) := c_wa ok23 (by omega) q
  have e2 : f_X1_wholeBelow (lN m) 23 127 = lN (wbN 23 127 m) := c_wb ok23 (by omega) q
  have e3 : f_X3_down (lN (m + σ)) 23 = _ := m_down ok23 hm hσ
  rw [a23 hm hσ, t23 hm hσ, e1, e2, e3, lN_i]
  by_cases c : σ = 0
  · rw [if_neg (fun d => (hn.mp d) c), if_pos c, w23 (lt_wb hm) hm hσ]
  · rw [if_pos (hn.mpr c), if_neg c, w23 (lt_wa ok23 hm) hm hσ]
theorem e_near52 (b : Int64) : f_X1_withSign (f_X1_wholeNear (f_X1_amount b) 52 1023) b = f_X3_near b 52 := by
  obtain ⟨m, σ, hm, hσ, rfl, hn⟩ := spl b
  have e1 : f_X1_wholeNear (lN m) 52 1023 = lN (nnN 52 1023 m) := c_near ok52 hm
  have e3 : f_X3_near (lN (m + σ)) 52 = _ := m_near ok52 hm hσ
  rw [a52 hm hσ, e1, e3, w52 (lt_nn ok52 hm) hm hσ]
theorem e_near23 (p : Int32) : f_X1_shortWithSign (Int64.toInt32 (f_X1_wholeNear (Int32.toInt64 (f_X1_shortAmount p)) 23 127)) p = Int64.toInt32 (f_X3_near (f_X3_thin p) 23) := by
  obtain ⟨m, σ, hm, hσ, rfl, hn⟩ := spi p
  have e1 : f_X1_wholeNear (lN m) 23 127 = lN (nnN 23 127 m) := c_near ok23 hm
  have e3 : f_X3_near (lN (m + σ)) 23 = _ := m_near ok23 hm hσ
  rw [a23 hm hσ, t23 hm hσ, e1, e3, w23 (lt_nn ok23 hm) hm hσ, lN_i]
theorem e_half52 (b : Int64) : f_X1_withSign (f_X1_half (f_X1_amount b) 52 9218868437227405312) b = f_X3_half b 52 := by
  obtain ⟨m, σ, hm, hσ, rfl, hn⟩ := spl b
  have e1 : f_X1_half (lN m) 52 9218868437227405312 = lN (hfN 52 1023 m) := c_half ok52 hm
  have e3 : f_X3_half (lN (m + σ)) 52 = _ := m_half ok52 hm hσ
  rw [a52 hm hσ, e1, e3, w52 (lt_hf (B := 1023) hm) hm hσ]
theorem e_half23 (p : Int32) : f_X1_shortWithSign (Int64.toInt32 (f_X1_half (Int32.toInt64 (f_X1_shortAmount p)) 23 2139095040)) p = Int64.toInt32 (f_X3_half (f_X3_thin p) 23) := by
  obtain ⟨m, σ, hm, hσ, rfl, hn⟩ := spi p
  have e1 : f_X1_half (lN m) 23 2139095040 = lN (hfN 23 127 m) := c_half ok23 hm
  have e3 : f_X3_half (lN (m + σ)) 23 = _ := m_half ok23 hm hσ
  rw [a23 hm hσ, t23 hm hσ, e1, e3, w23 (lt_hf (B := 127) hm) hm hσ, lN_i]
theorem e_twice52 (b : Int64) (hb : f_X1_amount b ≤ 9218868437227405312) : f_X1_withSign (f_X1_twice (f_X1_amount b) 52 9218868437227405312) b = f_X3_twice b 52 := by
  obtain ⟨m, σ, hm, hσ, rfl, hn⟩ := spl b
  rw [a52 hm hσ] at hb
  have hb2 : m ≤ (2 * 1023 + 1) * 2 ^ 52 := (pk_lLE hm (by decide)).mp (show lN m ≤ lN ((2 * 1023 + 1) * 2 ^ 52) from hb)
  have e1 : f_X1_twice (lN m) 52 9218868437227405312 = lN (twN 52 1023 m) := by
    by_cases c : m = (2 * 1023 + 1) * 2 ^ 52
    · subst c
      decide
    · exact c_twice ok52 (by omega)
  have e3 : f_X3_twice (lN (m + σ)) 52 = _ := m_twice ok52 hm hσ
  rw [a52 hm hσ, e1, e3, w52 (lt_tw ok52) hm hσ]
theorem e_twice23 (p : Int32) : f_X1_shortWithSign (Int64.toInt32 (f_X1_twice (Int32.toInt64 (f_X1_shortAmount p)) 23 2139095040)) p = Int64.toInt32 (f_X3_twice (f_X3_thin p) 23) := by
  obtain ⟨m, σ, hm, hσ, rfl, hn⟩ := spi p
  have e1 : f_X1_twice (lN m) 23 2139095040 = lN (twN 23 127 m) := c_twice ok23 (by omega)
  have e3 : f_X3_twice (lN (m + σ)) 23 = _ := m_twice ok23 hm hσ
  rw [a23 hm hσ, t23 hm hσ, e1, e3, w23 (lt_tw ok23) hm hσ, lN_i]
theorem bv_xor {w s m σ : Nat} (hm : m < 2 ^ s) (hσ : σ = 0 ∨ σ = 2 ^ s) : BitVec.ofNat w (m + σ) ^^^ BitVec.ofNat w (2 ^ s) = BitVec.ofNat w (m + (2 ^ s - σ)) := by
  apply BitVec.eq_of_getLsbD_eq
  intro i hi
  rcases hσ with rfl | rfl
  · simp only [Nat.add_zero, Nat.sub_zero, BitVec.getLsbD_xor, BitVec.getLsbD_ofNat, hi, decide_true, Bool.true_and, Nat.testBit_two_pow, tb_add hm]
    by_cases h : s = i
    · subst h; simp [tb_hi hm (Nat.le_refl _)]
    · simp [h]
  · simp only [Nat.sub_self, Nat.add_zero, BitVec.getLsbD_xor, BitVec.getLsbD_ofNat, hi, decide_true, Bool.true_and, Nat.testBit_two_pow, tb_add hm]
    by_cases h : s = i
    · subst h; simp [tb_hi hm (Nat.le_refl _)]
    · simp [h]
theorem l_xor {s m σ : Nat} (hm : m < 2 ^ s) (hσ : σ = 0 ∨ σ = 2 ^ s) : lN (m + σ) ^^^ lN (2 ^ s) = lN (m + (2 ^ s - σ)) := wb_inj (by rw [Int64.toBitVec_xor, wb_tb, wb_tb, wb_tb]; exact bv_xor hm hσ)
theorem m_up {W B m σ : Nat} (h : okW W B) (hm : m < 2 ^ sgE W) (hσ : σ = 0 ∨ σ = 2 ^ sgE W) : f_X3_up (lN (m + σ)) (nI W) = lN ((if σ = 0 then waN W B m else wbN W B m) + σ) := by
  have hs0 := Nat.two_pow_pos (sgE W)
  have hσ2 : 2 ^ sgE W - σ = 0 ∨ 2 ^ sgE W - σ = 2 ^ sgE W := by rcases hσ with rfl | rfl <;> simp
  unfold f_X3_up
  rw [m_sign h, l_xor hm hσ, m_down h hm hσ2]
  have hlt : (if 2 ^ sgE W - σ = 0 then wbN W B m else waN W B m) < 2 ^ sgE W := by
    split
    · exact lt_wb hm
    · exact lt_wa h hm
  rw [l_xor hlt hσ2]
  rcases hσ with rfl | rfl
  · rw [if_neg (by omega), if_pos rfl]
    congr 1
    omega
  · rw [if_pos (by omega), if_neg (by omega)]
    congr 1
    omega
theorem e_up52 (b : Int64) : f_X1_withSign (if 0 ≤ b then f_X1_wholeAbove (f_X1_amount b) 52 1023 else f_X1_wholeBelow (f_X1_amount b) 52 1023) b = f_X3_up b 52 := by
  obtain ⟨m, σ, hm, hσ, rfl, hn⟩ := spl b
  have q := okW_q ok52 hm
  have e1 : f_X1_wholeAbove (lN m) 52 1023 = lN (waN 52 1023 m) := c_wa ok52 hm q
  have e2 : f_X1_wholeBelow (lN m) 52 1023 = lN (wbN 52 1023 m) := c_wb ok52 hm q
  have e3 : f_X3_up (lN (m + σ)) 52 = _ := m_up ok52 hm hσ
  rw [a52 hm hσ, e1, e2, e3]
  by_cases c : σ = 0
  · rw [if_pos (Int64.not_lt.mp (fun d => (hn.mp d) c)), if_pos c, w52 (lt_wa ok52 hm) hm hσ]
  · rw [if_neg (Int64.not_le.mpr (hn.mpr c)), if_neg c, w52 (lt_wb hm) hm hσ]
theorem e_up23 (p : Int32) : f_X1_shortWithSign (Int64.toInt32 (if 0 ≤ p then f_X1_wholeAbove (Int32.toInt64 (f_X1_shortAmount p)) 23 127 else f_X1_wholeBelow (Int32.toInt64 (f_X1_shortAmount p)) 23 127)) p = Int64.toInt32 (f_X3_up (f_X3_thin p) 23) := by
  obtain ⟨m, σ, hm, hσ, rfl, hn⟩ := spi p
  have q := okW_q ok23 hm
  have e1 : f_X1_wholeAbove (lN m) 23 127 = lN (waN 23 127 m) := c_wa ok23 (by omega) q
  have e2 : f_X1_wholeBelow (lN m) 23 127 = lN (wbN 23 127 m) := c_wb ok23 (by omega) q
  have e3 : f_X3_up (lN (m + σ)) 23 = _ := m_up ok23 hm hσ
  rw [a23 hm hσ, t23 hm hσ, e1, e2, e3, lN_i]
  by_cases c : σ = 0
  · rw [if_pos (Int32.not_lt.mp (fun d => (hn.mp d) c)), if_pos c, w23 (lt_wa ok23 hm) hm hσ]
  · rw [if_neg (Int32.not_le.mpr (hn.mpr c)), if_neg c, w23 (lt_wb hm) hm hσ]
/-- amounts that are numbers' stay so -/
def okL (x : Int64) : Prop := f_X1_amount x ≤ 9218868437227405312
theorem okL_iff {m σ : Nat} (hm : m < 2 ^ 63) (hσ : σ = 0 ∨ σ = 2 ^ 63) : okL (lN (m + σ)) ↔ m ≤ (2 * 1023 + 1) * 2 ^ 52 := by
  unfold okL
  rw [a52 hm hσ]
  exact pk_lLE (b := (2 * 1023 + 1) * 2 ^ 52) hm (by decide)
theorem okL_wa {m : Nat} (h : m ≤ (2 * 1023 + 1) * 2 ^ 52) : waN 52 1023 m ≤ (2 * 1023 + 1) * 2 ^ 52 := by
  unfold waN
  split
  · omega
  · split
    · rename_i h1
      split
      · rename_i h2
        rw [up_div (Nat.two_pow_pos _)]
        split
        · exact h
        · have := fP_le (W := 52) (B := 1023) (m := m) h1 h2
          omega
      · exact h
    · omega
theorem okL_nn {m : Nat} (h : m ≤ (2 * 1023 + 1) * 2 ^ 52) : nnN 52 1023 m ≤ (2 * 1023 + 1) * 2 ^ 52 := by
  unfold nnN
  split
  · rename_i h1
    split
    · rename_i h2
      have := fP_le (W := 52) (B := 1023) (m := m) h1 h2
      split <;> omega
    · exact h
  · split <;> omega
theorem okL_hf {m : Nat} (h : m ≤ (2 * 1023 + 1) * 2 ^ 52) : hfN 52 1023 m ≤ (2 * 1023 + 1) * 2 ^ 52 := by
  unfold hfN
  split
  · exact h
  · split
    · rcases Nat.mod_two_eq_zero_or_one m with e | e <;> rcases Nat.mod_two_eq_zero_or_one (m / 2) with f | f <;> rw [e, f] <;> omega
    · omega
theorem okL_tw {m : Nat} : twN 52 1023 m ≤ (2 * 1023 + 1) * 2 ^ 52 := by
  unfold twN
  split
  · rename_i c2
    have c4 := q_lt.mpr c2
    split
    · rename_i c3
      have c5 : m < 2 ^ 52 := by have := (q_lt (W := 52) (m := m) (c := 1)).mpr (by omega); omega
      omega
    · omega
  · omega
theorem okL_down {b : Int64} (h : okL b) : okL (f_X3_down b 52) := by
  obtain ⟨m, σ, hm, hσ, rfl, hn⟩ := spl b
  have h2 := (okL_iff hm hσ).mp h
  have e3 : f_X3_down (lN (m + σ)) 52 = _ := m_down ok52 hm hσ
  rw [e3]
  by_cases c : σ = 0
  · rw [if_pos c]
    exact (okL_iff (lt_wb (W := 52) hm) hσ).mpr (Nat.le_trans (wb_le 52 1023 m) h2)
  · rw [if_neg c]
    exact (okL_iff (lt_wa ok52 hm) hσ).mpr (okL_wa h2)
theorem okL_up {b : Int64} (h : okL b) : okL (f_X3_up b 52) := by
  obtain ⟨m, σ, hm, hσ, rfl, hn⟩ := spl b
  have h2 := (okL_iff hm hσ).mp h
  have e3 : f_X3_up (lN (m + σ)) 52 = _ := m_up ok52 hm hσ
  rw [e3]
  by_cases c : σ = 0
  · rw [if_pos c]
    exact (okL_iff (lt_wa ok52 hm) hσ).mpr (okL_wa h2)
  · rw [if_neg c]
    exact (okL_iff (lt_wb (W := 52) hm) hσ).mpr (Nat.le_trans (wb_le 52 1023 m) h2)
theorem okL_near {b : Int64} (h : okL b) : okL (f_X3_near b 52) := by
  obtain ⟨m, σ, hm, hσ, rfl, hn⟩ := spl b
  have h2 := (okL_iff hm hσ).mp h
  have e3 : f_X3_near (lN (m + σ)) 52 = _ := m_near ok52 hm hσ
  rw [e3]
  exact (okL_iff (lt_nn ok52 hm) hσ).mpr (okL_nn h2)
theorem okL_half {b : Int64} (h : okL b) : okL (f_X3_half b 52) := by
  obtain ⟨m, σ, hm, hσ, rfl, hn⟩ := spl b
  have h2 := (okL_iff hm hσ).mp h
  have e3 : f_X3_half (lN (m + σ)) 52 = _ := m_half ok52 hm hσ
  rw [e3]
  exact (okL_iff (lt_hf (B := 1023) (W := 52) hm) hσ).mpr (okL_hf h2)
theorem okL_twice {b : Int64} : okL (f_X3_twice b 52) := by
  obtain ⟨m, σ, hm, hσ, rfl, hn⟩ := spl b
  have e3 : f_X3_twice (lN (m + σ)) 52 = _ := m_twice ok52 hm hσ
  rw [e3]
  exact (okL_iff (lt_tw ok52) hσ).mpr okL_tw
theorem okL_amt {b : Int64} (h : okL b) : okL (f_X1_amount b) := by
  obtain ⟨m, σ, hm, hσ, rfl, hn⟩ := spl b
  have h2 := (okL_iff hm hσ).mp h
  rw [a52 hm hσ]
  exact (okL_iff (σ := 0) hm (Or.inl rfl)).mpr h2
theorem okL_sgn {b g : Int64} (h : okL b) : okL (f_X1_withSign (f_X1_amount b) g) := by
  obtain ⟨m, σ, hm, hσ, rfl, hn⟩ := spl b
  obtain ⟨m2, σ2, hm2, hσ2, rfl, hn2⟩ := spl g
  have h2 := (okL_iff hm hσ).mp h
  rw [a52 hm hσ, w52 hm hm2 hσ2]
  exact (okL_iff hm hσ2).mpr h2
theorem okL_one {g : Int64} : okL (f_X1_withSign 4607182418800017408 g) := by
  obtain ⟨m2, σ2, hm2, hσ2, rfl, hn2⟩ := spl g
  have e : f_X1_withSign 4607182418800017408 (lN (m2 + σ2)) = lN (4607182418800017408 + σ2) := w52 (x := 4607182418800017408) (by decide) hm2 hσ2
  rw [e]
  exact (okL_iff (by decide) hσ2).mpr (by decide)
theorem okL_gr {b g : Int64} (h : okL b) (h2 : okL g) : okL (f_X1_greater b g) := by
  unfold f_X1_greater
  split <;> assumption
theorem okL_le {b g : Int64} (h : okL b) (h2 : okL g) : okL (f_X1_lesser b g) := by
  unfold f_X1_lesser
  split <;> assumption
