theorem wb_tb (n : Nat) : (lN n).toBitVec = BitVec.ofNat 64 n := rfl
theorem wb_inj {a b : Int64} (h : a.toBitVec = b.toBitVec) : a = b := Int64.toBitVec_inj.mp h
theorem wb_tn {n : Nat} (h : n < 2 ^ 64) : (lN n).toBitVec.toNat = n := by rw [wb_tb, BitVec.toNat_ofNat, Nat.mod_eq_of_lt h]
theorem wb_of (x : Int64) : ∃ n, n < 2 ^ 64 ∧ x = lN n := ⟨x.toBitVec.toNat, x.toBitVec.isLt, wb_inj (by rw [wb_tb]; simp)⟩
theorem wb_of32 (x : Int32) : ∃ n, n < 2 ^ 32 ∧ x = nI n := ⟨x.toBitVec.toNat, x.toBitVec.isLt, Int32.toBitVec_inj.mp (by show _ = BitVec.ofNat 32 _; simp)⟩
theorem wb_c : ∀ k, k < 64 → ((nI k).toInt64 &&& 63) = lN k := by decide +kernel
theorem wb_cu : ∀ k, k < 64 → ((nI k).toInt64.toUInt64 &&& Int64.toUInt64 63) = UInt64.ofNat k := by decide +kernel
theorem wb_sm : ∀ k, k < 64 → (BitVec.ofNat 64 k).smod 64 = BitVec.ofNat 64 k := by decide +kernel
theorem wb_pw {a b : Nat} (h : a ≤ b) : 2 ^ b = 2 ^ a * 2 ^ (b - a) := by rw [← Nat.pow_add]; congr 1; omega
theorem wb_lt2 {a b : Nat} (h : a < b) : 2 ^ a < 2 ^ b := Nat.pow_lt_pow_right (by decide) h
theorem wb_mod (n : Nat) : lN n = lN (n % 2 ^ 64) := wb_inj (by rw [wb_tb, wb_tb]; apply BitVec.eq_of_toNat_eq; rw [BitVec.toNat_ofNat, BitVec.toNat_ofNat, Nat.mod_mod])
theorem wb_shl (n : Nat) {k : Nat} (hk : k < 64) : lN n <<< ((nI k).toInt64 &&& 63) = lN (n * 2 ^ k) := by
  rw [wb_c k hk]
  apply wb_inj
  rw [Int64.toBitVec_shiftLeft, wb_tb, wb_tb, wb_tb, wb_sm k hk]
  apply BitVec.eq_of_toNat_eq
  rw [BitVec.shiftLeft_eq', BitVec.toNat_shiftLeft, BitVec.toNat_ofNat, BitVec.toNat_ofNat, BitVec.toNat_ofNat, Nat.mod_eq_of_lt (show k < 2 ^ 64 by omega), Nat.shiftLeft_eq, Nat.mul_mod, Nat.mod_mod, ← Nat.mul_mod]
theorem wb_and {a b : Nat} (ha : a < 2 ^ 64) (hb : b < 2 ^ 64) : lN a &&& lN b = lN (a &&& b) := by
  apply wb_inj
  rw [Int64.toBitVec_and, wb_tb, wb_tb, wb_tb]
  apply BitVec.eq_of_toNat_eq
  rw [BitVec.toNat_and, BitVec.toNat_ofNat, BitVec.toNat_ofNat, BitVec.toNat_ofNat, Nat.mod_eq_of_lt ha, Nat.mod_eq_of_lt hb, Nat.mod_eq_of_lt (Nat.and_lt_two_pow _ hb)]
theorem wb_or {a b : Nat} (ha : a < 2 ^ 64) (hb : b < 2 ^ 64) : lN a ||| lN b = lN (a ||| b) := by
  apply wb_inj
  rw [Int64.toBitVec_or, wb_tb, wb_tb, wb_tb]
  apply BitVec.eq_of_toNat_eq
  rw [BitVec.toNat_or, BitVec.toNat_ofNat, BitVec.toNat_ofNat, BitVec.toNat_ofNat, Nat.mod_eq_of_lt ha, Nat.mod_eq_of_lt hb, Nat.mod_eq_of_lt (Nat.or_lt_two_pow ha hb)]
theorem wb_mask {n k : Nat} (hn : n < 2 ^ 64) (hk : k < 64) : lN n &&& lN (2 ^ k - 1) = lN (n % 2 ^ k) := by
  rw [wb_and hn (by have := wb_lt2 hk; omega), Nat.and_two_pow_sub_one_eq_mod]
theorem wb_a1 {n : Nat} (hn : n < 2 ^ 64) : lN n &&& 1 = lN (n % 2) := wb_mask (k := 1) hn (by decide)
/-! amounts of reals as natural numbers: what each side does to them -/
theorem sh63 {a k : Nat} (ha : a < 2 ^ 63) (hk : k < 64) : lN a >>> ((nI k).toInt64 &&& 63) = lN (a / 2 ^ k) := by
  rw [wb_c k hk]
  have hd : a / 2 ^ k ≤ a := Nat.div_le_self _ _
  have hD : ((lN k).toBitVec.smod 64).toNat = k := by
    rw [wb_tb, wb_sm k hk, BitVec.toNat_ofNat, Nat.mod_eq_of_lt (by omega)]
  apply Int64.toInt_inj.mp
  have e : (lN a >>> lN k).toInt = (lN a).toInt >>> ((lN k).toBitVec.smod 64).toNat := BitVec.toInt_sshiftRight ..
  rw [hD] at e
  rw [e, Int.shiftRight_eq_div_pow, pk_lT (by omega), pk_lT (by omega)]
  rfl
theorem cl_nat (m e : Nat) : m - m % 2 ^ e = (m >>> e) <<< e := by
  rw [Nat.shiftRight_eq_div_pow, Nat.shiftLeft_eq]
  have := Nat.div_add_mod m (2 ^ e)
  rw [Nat.mul_comm] at this
  omega
theorem clr {m e : Nat} (he : e < 64) : lN m &&& (lN (2 ^ e - 1) ^^^ (-1)) = lN (m - m % 2 ^ e) := by
  rw [cl_nat]
  apply wb_inj
  apply BitVec.eq_of_getLsbD_eq
  intro i hi
  have h1 : (-1 : Int64).toBitVec = BitVec.allOnes 64 := by decide
  rw [Int64.toBitVec_and, Int64.toBitVec_xor, h1, wb_tb, wb_tb, wb_tb]
  simp only [BitVec.getLsbD_and, BitVec.getLsbD_xor, BitVec.getLsbD_allOnes, BitVec.getLsbD_ofNat, Nat.testBit_two_pow_sub_one, Nat.testBit_shiftLeft, Nat.testBit_shiftRight, hi, decide_true, Bool.true_and]
  by_cases h : i < e
  · simp [h, show ¬ e ≤ i by omega]
  · simp [h, show e ≤ i by omega, show e + (i - e) = i by omega]
theorem lN_ne0 {x : Nat} (hx : x < 2 ^ 63) (h0 : x ≠ 0) : ¬ lN x = 0 := fun c => h0 ((pk_lEQ hx (by decide)).mp (show lN x = lN 0 from c))
theorem neg1 : ∀ e, e < 64 → -(lN (2 ^ e)) = lN (2 ^ e - 1) ^^^ (-1) := by decide +kernel
theorem one_shl {e : Nat} (he : e < 64) : (1 : Int64) <<< ((nI e).toInt64 &&& 63) = lN (2 ^ e) := by
  have h := wb_shl 1 he
  rw [Nat.one_mul] at h
  exact h
def okW (W B : Nat) : Prop := (W = 52 ∧ B = 1023) ∨ (W = 23 ∧ B = 127)
theorem pw_ge {W B m : Nat} (h : okW W B) (hq : m / 2 ^ W < 2048) : 0 ≤ nI (m / 2 ^ W) - nI B ↔ B ≤ m / 2 ^ W := by
  have hB : B ≤ 1023 := by rcases h with ⟨-, rfl⟩ | ⟨-, rfl⟩ <;> decide
  constructor
  · intro h1
    rcases Nat.lt_or_ge (m / 2 ^ W) B with h2 | h2
    · exact absurd h1 (Int32.not_le.mpr (pk_sneg (by omega) h2))
    · exact h2
  · intro h1
    rw [pk_sub h1]
    exact nI_pos' (by omega)
theorem pw_eq {W B m : Nat} (h : okW W B) (hm : m < 2 ^ 63) : f_X1_power (lN m) (nI W) (nI B) = nI (m / 2 ^ W) - nI B := by
  have hW : W < 64 := by rcases h with ⟨rfl, -⟩ | ⟨rfl, -⟩ <;> decide
  unfold f_X1_power
  rw [sh63 hm hW, lN_i]
def wbN (W B m : Nat) : Nat := if B ≤ m / 2 ^ W then (if m / 2 ^ W < B + W then m - m % 2 ^ (W + B - m / 2 ^ W) else m) else 0
theorem wb_le (W B m : Nat) : wbN W B m ≤ m := by
  unfold wbN
  split
  · split <;> omega
  · omega
theorem c_wb {W B m : Nat} (h : okW W B) (hm : m < 2 ^ 63) (hq : m / 2 ^ W < 2048) : f_X1_wholeBelow (lN m) (nI W) (nI B) = lN (wbN W B m) := by
  have hW : W < 64 := by rcases h with ⟨rfl, -⟩ | ⟨rfl, -⟩ <;> decide
  have hB : B ≤ 1023 := by rcases h with ⟨-, rfl⟩ | ⟨-, rfl⟩ <;> decide
  unfold f_X1_wholeBelow wbN
  dsimp only
  rw [pw_eq h hm]
  by_cases h1 : B ≤ m / 2 ^ W
  · rw [if_pos ((pw_ge h hq).mpr h1), if_pos h1, pk_sub h1]
    by_cases h2 : m / 2 ^ W < B + W
    · rw [if_pos ((nI_ltI (by omega) (by omega)).mpr (show m / 2 ^ W - B < W by omega)), if_pos h2, pk_sub (show m / 2 ^ W - B ≤ W by omega), show W - (m / 2 ^ W - B) = W + B - m / 2 ^ W by omega, one_shl (by omega), neg1 _ (by omega), clr (by omega)]
    · rw [if_neg (fun c => h2 (by have := (nI_ltI (by omega) (by omega)).mp c; omega)), if_neg h2]
  · rw [if_neg (fun c => h1 ((pw_ge h hq).mp c)), if_neg h1]
    rfl
theorem md_q {W e m : Nat} (he : e ≤ W) : (m - m % 2 ^ e) / 2 ^ W = m / 2 ^ W := by
  have hP : 2 ^ W = 2 ^ e * 2 ^ (W - e) := wb_pw he
  have h1 : m - m % 2 ^ e = 2 ^ e * (m / 2 ^ e) := by have := Nat.div_add_mod m (2 ^ e); omega
  rw [h1, hP, Nat.mul_div_mul_left _ _ (Nat.two_pow_pos e), ← Nat.div_div_eq_div_mul]
theorem up_div {m P : Nat} (hP : 0 < P) : (m + (P - 1)) - (m + (P - 1)) % P = if m % P = 0 then m else m - m % P + P := by
  have h0 := Nat.div_add_mod m P
  have h1 := Nat.mod_lt m hP
  by_cases h : m % P = 0
  · rw [if_pos h]
    have e : m + (P - 1) = P * (m / P) + (P - 1) := by omega
    rw [e, Nat.mul_add_mod, Nat.mod_eq_of_lt (show P - 1 < P by omega)]
    omega
  · rw [if_neg h]
    have e : m + (P - 1) = P * (m / P + 1) + (m % P - 1) := by rw [Nat.mul_add, Nat.mul_one]; omega
    rw [e, Nat.mul_add_mod, Nat.mod_eq_of_lt (show m % P - 1 < P by omega), Nat.mul_add, Nat.mul_one]
    omega
def waN (W B m : Nat) : Nat := if m = 0 then 0 else if B ≤ m / 2 ^ W then (if m / 2 ^ W < B + W then (m + (2 ^ (W + B - m / 2 ^ W) - 1)) - (m + (2 ^ (W + B - m / 2 ^ W) - 1)) % 2 ^ (W + B - m / 2 ^ W) else m) else B * 2 ^ W
theorem c_nx {W B x : Nat} (h : okW W B) (hx : x < 2 ^ 63) (h0 : x ≠ 0) (h1 : B ≤ x / 2 ^ W) (h2 : x / 2 ^ W < B + W) : f_X1_nextWhole (lN x) (nI W) (nI B) = lN (x + 2 ^ (W + B - x / 2 ^ W)) := by
  have hW : W < 64 := by rcases h with ⟨rfl, -⟩ | ⟨rfl, -⟩ <;> decide
  have hB : B ≤ 1023 := by rcases h with ⟨-, rfl⟩ | ⟨-, rfl⟩ <;> decide
  unfold f_X1_nextWhole
  rw [if_neg (lN_ne0 hx h0), pw_eq h hx, pk_sub h1, pk_sub (show x / 2 ^ W - B ≤ W by omega), show W - (x / 2 ^ W - B) = W + B - x / 2 ^ W by omega, one_shl (by omega), lN_add]
theorem c_nx0 {W B : Nat} (h : okW W B) : f_X1_nextWhole (lN 0) (nI W) (nI B) = lN (B * 2 ^ W) := by
  rcases h with ⟨rfl, rfl⟩ | ⟨rfl, rfl⟩ <;> decide
theorem wb_q {W B m : Nat} (h1 : B ≤ m / 2 ^ W) (h2 : m / 2 ^ W < B + W) : wbN W B m = m - m % 2 ^ (W + B - m / 2 ^ W) := by
  unfold wbN
  rw [if_pos h1, if_pos h2]
theorem c_wa {W B m : Nat} (h : okW W B) (hm : m < 2 ^ 63) (hq : m / 2 ^ W < 2048) : f_X1_wholeAbove (lN m) (nI W) (nI B) = lN (waN W B m) := by
  have hW : W < 64 := by rcases h with ⟨rfl, -⟩ | ⟨rfl, -⟩ <;> decide
  have hB : B ≤ 1023 ∧ 0 < B := by rcases h with ⟨-, rfl⟩ | ⟨-, rfl⟩ <;> decide
  have hle := wb_le W B m
  unfold f_X1_wholeAbove
  dsimp only
  rw [c_wb h hm hq]
  unfold waN
  by_cases h1 : B ≤ m / 2 ^ W
  · have hm0 : m ≠ 0 := fun e => by rw [e] at h1; simp at h1; omega
    rw [if_neg hm0, if_pos h1]
    by_cases h2 : m / 2 ^ W < B + W
    · rw [if_pos h2, up_div (Nat.two_pow_pos _)]
      have e1 := wb_q h1 h2
      by_cases h3 : m % 2 ^ (W + B - m / 2 ^ W) = 0
      · rw [if_pos h3, if_pos (by rw [e1, h3, Nat.sub_zero])]
      · rw [if_neg h3, if_neg (fun c => h3 (by have := (pk_lEQ (by omega) hm).mp c; omega))]
        have e2 : wbN W B m / 2 ^ W = m / 2 ^ W := by rw [e1]; exact md_q (by omega)
        have e3 : wbN W B m ≠ 0 := fun e => by rw [e] at e2; simp at e2; omega
        rw [c_nx h (by omega) e3 (by omega) (by omega), e2, e1]
    · rw [if_neg h2, if_pos (by unfold wbN; rw [if_pos h1, if_neg h2])]
  · have e1 : wbN W B m = 0 := by unfold wbN; rw [if_neg h1]
    rw [e1]
    by_cases h0 : m = 0
    · rw [if_pos h0, if_pos (by rw [h0]), h0]
    · rw [if_neg h0, if_neg h1, if_neg (fun c => h0 ((pk_lEQ (by decide) hm).mp c).symm), c_nx0 h]
theorem tb_add {m s : Nat} (hm : m < 2 ^ s) (i : Nat) : (m + 2 ^ s).testBit i = (m.testBit i || decide (s = i)) := by
  have e : m + 2 ^ s = 2 ^ s * 1 ||| m := by rw [← Nat.two_pow_add_eq_or_of_lt hm 1]; omega
  rw [e, Nat.mul_one, Nat.testBit_or, Nat.testBit_two_pow, Bool.or_comm]
theorem tb_hi {m s : Nat} (hm : m < 2 ^ s) {i : Nat} (h : s ≤ i) : m.testBit i = false := Nat.testBit_lt_two_pow (Nat.lt_of_lt_of_le hm (Nat.pow_le_pow_right (by decide) h))
theorem bv_get {w s m σ : Nat} (hm : m < 2 ^ s) (hσ : σ = 0 ∨ σ = 2 ^ s) : BitVec.ofNat w (m + σ) &&& BitVec.ofNat w (2 ^ s) = BitVec.ofNat w σ := by
  apply BitVec.eq_of_getLsbD_eq
  intro i hi
  rcases hσ with rfl | rfl
  · simp only [Nat.add_zero, BitVec.getLsbD_and, BitVec.getLsbD_ofNat, hi, decide_true, Bool.true_and, Nat.testBit_two_pow, Nat.zero_testBit]
    by_cases h : s = i
    · subst h; simp [tb_hi hm (Nat.le_refl _)]
    · simp [h]
  · simp only [BitVec.getLsbD_and, BitVec.getLsbD_ofNat, hi, decide_true, Bool.true_and, Nat.testBit_two_pow, tb_add hm]
    by_cases h : s = i <;> simp [h]
theorem bv_put {w s x σ : Nat} (hx : x < 2 ^ s) (hσ : σ = 0 ∨ σ = 2 ^ s) : BitVec.ofNat w x ||| BitVec.ofNat w σ = BitVec.ofNat w (x + σ) := by
  apply BitVec.eq_of_getLsbD_eq
  intro i hi
  rcases hσ with rfl | rfl
  · simp [BitVec.getLsbD_or, BitVec.getLsbD_ofNat]
  · simp only [BitVec.getLsbD_or, BitVec.getLsbD_ofNat, hi, decide_true, Bool.true_and, Nat.testBit_two_pow, tb_add hx]
theorem bv_clr {w s m σ : Nat} (hm : m < 2 ^ s) (hσ : σ = 0 ∨ σ = 2 ^ s) : BitVec.ofNat w (m + σ) &&& (BitVec.ofNat w (2 ^ s) ^^^ BitVec.allOnes w) = BitVec.ofNat w m := by
  apply BitVec.eq_of_getLsbD_eq
  intro i hi
  rcases hσ with rfl | rfl
  · simp only [Nat.add_zero, BitVec.getLsbD_and, BitVec.getLsbD_xor, BitVec.getLsbD_allOnes, BitVec.getLsbD_ofNat, hi, decide_true, Bool.true_and, Nat.testBit_two_pow]
    by_cases h : s = i
    · subst h; simp [tb_hi hm (Nat.le_refl _)]
    · simp [h]
  · simp only [BitVec.getLsbD_and, BitVec.getLsbD_xor, BitVec.getLsbD_allOnes, BitVec.getLsbD_ofNat, hi, decide_true, Bool.true_and, Nat.testBit_two_pow, tb_add hm]
    by_cases h : s = i
    · subst h; simp [tb_hi hm (Nat.le_refl _)]
    · simp [h]
theorem l_get {s m σ : Nat} (hm : m < 2 ^ s) (hσ : σ = 0 ∨ σ = 2 ^ s) : lN (m + σ) &&& lN (2 ^ s) = lN σ := wb_inj (by rw [Int64.toBitVec_and, wb_tb, wb_tb, wb_tb]; exact bv_get hm hσ)
theorem l_put {s x σ : Nat} (hx : x < 2 ^ s) (hσ : σ = 0 ∨ σ = 2 ^ s) : lN x ||| lN σ = lN (x + σ) := wb_inj (by rw [Int64.toBitVec_or, wb_tb, wb_tb, wb_tb]; exact bv_put hx hσ)
theorem l_clr {s m σ : Nat} (hm : m < 2 ^ s) (hσ : σ = 0 ∨ σ = 2 ^ s) : lN (m + σ) &&& (lN (2 ^ s) ^^^ (-1)) = lN m := wb_inj (by
  have h1 : (-1 : Int64).toBitVec = BitVec.allOnes 64 := by decide
  rw [Int64.toBitVec_and, Int64.toBitVec_xor, h1, wb_tb, wb_tb, wb_tb]; exact bv_clr hm hσ)
theorem i_tb (n : Nat) : (nI n).toBitVec = BitVec.ofNat 32 n := rfl
theorem i_get {s m σ : Nat} (hm : m < 2 ^ s) (hσ : σ = 0 ∨ σ = 2 ^ s) : nI (m + σ) &&& nI (2 ^ s) = nI σ := Int32.toBitVec_inj.mp (by rw [Int32.toBitVec_and, i_tb, i_tb, i_tb]; exact bv_get hm hσ)
theorem i_put {s x σ : Nat} (hx : x < 2 ^ s) (hσ : σ = 0 ∨ σ = 2 ^ s) : nI x ||| nI σ = nI (x + σ) := Int32.toBitVec_inj.mp (by rw [Int32.toBitVec_or, i_tb, i_tb, i_tb]; exact bv_put hx hσ)
def sgE (W : Nat) : Nat := if W = 52 then 63 else 31
theorem m_sign {W B : Nat} (h : okW W B) : f_X3_sign (nI W) = lN (2 ^ sgE W) := by rcases h with ⟨rfl, rfl⟩ | ⟨rfl, rfl⟩ <;> decide
theorem m_bias {W B : Nat} (h : okW W B) : f_X3_bias (nI W) = lN B := by rcases h with ⟨rfl, rfl⟩ | ⟨rfl, rfl⟩ <;> decide
theorem m_one {W B : Nat} (h : okW W B) : f_X3_one (nI W) = lN (B * 2 ^ W) := by rcases h with ⟨rfl, rfl⟩ | ⟨rfl, rfl⟩ <;> decide
theorem m_end {W B : Nat} (h : okW W B) : f_X3_endless (nI W) = lN ((2 * B + 1) * 2 ^ W) := by rcases h with ⟨rfl, rfl⟩ | ⟨rfl, rfl⟩ <;> decide
theorem m_top {W B : Nat} (h : okW W B) : ((f_X3_bias (nI W)) + (Int32.toInt64 (nI W))) <<< (Int32.toInt64 (nI W) &&& 63) = lN ((B + W) * 2 ^ W) := by rcases h with ⟨rfl, rfl⟩ | ⟨rfl, rfl⟩ <;> decide
theorem m_amt {W B m σ : Nat} (h : okW W B) (hm : m < 2 ^ sgE W) (hσ : σ = 0 ∨ σ = 2 ^ sgE W) : f_X3_amount (lN (m + σ)) (nI W) = lN m := by
  unfold f_X3_amount
  rw [m_sign h, l_clr hm hσ]
theorem m_blw {W B m σ : Nat} (h : okW W B) (hm : m < 2 ^ sgE W) (hσ : σ = 0 ∨ σ = 2 ^ sgE W) : f_X3_isBelow (lN (m + σ)) (nI W) = 0 ↔ σ = 0 := by
  unfold f_X3_isBelow
  rw [m_sign h, l_get hm hσ]
  have h2 : ¬ lN (2 ^ sgE W) = 0 := by rcases h with ⟨rfl, rfl⟩ | ⟨rfl, rfl⟩ <;> decide
  have h3 : ¬ 2 ^ sgE W = 0 := by have := Nat.two_pow_pos (sgE W); omega
  rcases hσ with rfl | rfl
  · simp only [show lN 0 = 0 from rfl, if_true]
  · simp only [h2, h3, if_false, iff_false]
    decide
theorem q_lt {W m c : Nat} : m < c * 2 ^ W ↔ m / 2 ^ W < c := (Nat.div_lt_iff_lt_mul (Nat.two_pow_pos W)).symm
theorem okW_n {W B : Nat} (h : okW W B) : W < 64 ∧ B ≤ 1023 ∧ 0 < B ∧ (B + W) * 2 ^ W < 2 ^ sgE W ∧ 2 ^ sgE W ≤ 2 ^ 63 ∧ (2 * B + 1) * 2 ^ W < 2 ^ sgE W ∧ 2 ^ sgE W = (2 * B + 2) * 2 ^ W := by
  rcases h with ⟨rfl, rfl⟩ | ⟨rfl, rfl⟩ <;> decide
theorem okW_q {W B m : Nat} (h : okW W B) (hm : m < 2 ^ sgE W) : m / 2 ^ W < 2048 := by
  rcases h with ⟨rfl, rfl⟩ | ⟨rfl, rfl⟩
  · exact q_lt.mp (by exact Nat.lt_of_lt_of_le hm (by decide))
  · exact q_lt.mp (by exact Nat.lt_of_lt_of_le hm (by decide))
/-- the mask of a number's parts below one -/
theorem m_rest {W B m : Nat} (h : okW W B) (hm : m < 2 ^ 63) (h1 : B ≤ m / 2 ^ W) (h2 : m / 2 ^ W < B + W) : (1 : Int64) <<< (Int32.toInt64 (nI W - (Int64.toInt32 ((lN m >>> (Int32.toInt64 (nI W) &&& 63)) - (f_X3_bias (nI W))))) &&& 63) = lN (2 ^ (W + B - m / 2 ^ W)) := by
  obtain ⟨hW, hB, -⟩ := okW_n h
  rw [sh63 hm hW, m_bias h, lN_sub h1, lN_i, pk_sub (show m / 2 ^ W - B ≤ W by omega), show W - (m / 2 ^ W - B) = W + B - m / 2 ^ W by omega, one_shl (by omega)]
theorem lN_m1 {e : Nat} : lN (2 ^ e) - 1 = lN (2 ^ e - 1) := lN_sub (b := 1) (Nat.two_pow_pos e)
theorem fP_le {W B m : Nat} (h1 : B ≤ m / 2 ^ W) (h2 : m / 2 ^ W < B + W) : m - m % 2 ^ (W + B - m / 2 ^ W) + 2 ^ (W + B - m / 2 ^ W) ≤ (B + W) * 2 ^ W := by
  have e1 : W + B - m / 2 ^ W ≤ W := by omega
  have hP : 2 ^ W = 2 ^ (W + B - m / 2 ^ W) * 2 ^ (W - (W + B - m / 2 ^ W)) := wb_pw e1
  have hlt := q_lt.mpr h2
  have h5 := Nat.div_add_mod m (2 ^ (W + B - m / 2 ^ W))
  have key : ∀ P R : Nat, 2 ^ W = P * R → P * (m / P) + m % P = m → m - m % P + P ≤ (B + W) * 2 ^ W := by
    intro P R hPR h5
    rw [hPR, Nat.mul_left_comm] at hlt
    rw [hPR, Nat.mul_left_comm]
    have h6 : m / P < (B + W) * R := Nat.lt_of_mul_lt_mul_left (a := P) (by omega)
    have h7 : P * (m / P + 1) ≤ P * ((B + W) * R) := Nat.mul_le_mul_left P h6
    rw [Nat.mul_add, Nat.mul_one] at h7
    omega
  exact key _ _ hP h5
theorem m_down {W B m σ : Nat} (h : okW W B) (hm : m < 2 ^ sgE W) (hσ : σ = 0 ∨ σ = 2 ^ sgE W) : f_X3_down (lN (m + σ)) (nI W) = lN ((if σ = 0 then wbN W B m else waN W B m) + σ) := by
  obtain ⟨hW, hB, hB0, hT, hS, hE, -⟩ := okW_n h
  have hq := okW_q h hm
  have hm6 : m < 2 ^ 63 := by omega
  have hor : ∀ x, x < 2 ^ sgE W → lN (2 ^ sgE W) ||| lN x = lN (x + 2 ^ sgE W) := fun x hx => by rw [Int64.or_comm]; exact l_put hx (Or.inr rfl)
  have hs0 : 2 ^ sgE W ≠ 0 := by have := Nat.two_pow_pos (sgE W); omega
  have hB6 : B * 2 ^ W ≤ (B + W) * 2 ^ W := Nat.mul_le_mul_right _ (by omega)
  unfold f_X3_down
  dsimp only
  rw [m_amt h hm hσ, m_top h, m_one h, m_sign h]
  by_cases h0 : m = 0
  · subst h0
    have e1 : wbN W B 0 = 0 := by have := wb_le W B 0; omega
    have e2 : waN W B 0 = 0 := by unfold waN; rw [if_pos rfl]
    rw [if_pos (show lN 0 = 0 from rfl), e1, e2, ite_self]
  · rw [if_neg (lN_ne0 hm6 h0)]
    by_cases h2 : m / 2 ^ W < B + W
    · rw [if_pos ((pk_lLT hm6 (by omega)).mpr (q_lt.mpr h2))]
      by_cases h1 : B ≤ m / 2 ^ W
      · rw [if_pos ((pk_lLE (by omega) hm6).mpr (Nat.not_lt.mp (fun c => absurd (q_lt.mp c) (by omega)))), m_rest h hm6 h1 h2, lN_m1, clr (by omega), lN_add, clr (by omega)]
        unfold wbN waN
        rw [if_pos h1, if_pos h2, if_neg h0, if_pos h1, if_pos h2]
        rcases hσ with rfl | rfl
        · rw [if_pos ((m_blw h hm (Or.inl rfl)).mpr rfl), if_pos rfl]
          rfl
        · rw [if_neg (fun c => hs0 ((m_blw h hm (Or.inr rfl)).mp c)), if_neg hs0]
          apply hor
          rw [up_div (Nat.two_pow_pos _)]
          split
          · exact hm
          · have e1 : W + B - m / 2 ^ W ≤ W := by omega
            have e4 := fP_le (W := W) (B := B) (m := m) h1 h2
            omega
      · rw [if_neg (fun c => h1 (Nat.not_lt.mp (fun c2 => absurd ((pk_lLE (by omega) hm6).mp c) (Nat.not_le.mpr (q_lt.mpr c2)))))]
        unfold wbN waN
        rw [if_neg h1, if_neg h0, if_neg h1]
        rcases hσ with rfl | rfl
        · rw [if_pos ((m_blw h hm (Or.inl rfl)).mpr rfl), if_pos rfl]
          rfl
        · rw [if_neg (fun c => hs0 ((m_blw h hm (Or.inr rfl)).mp c)), if_neg hs0]
          apply hor
          have : B * 2 ^ W ≤ (B + W) * 2 ^ W := Nat.mul_le_mul_right _ (by omega)
          omega
    · rw [if_neg (fun c => h2 (q_lt.mp ((pk_lLT hm6 (by omega)).mp c)))]
      have h1 : B ≤ m / 2 ^ W := by omega
      unfold wbN waN
      rw [if_pos h1, if_neg h2, if_neg h0, if_pos h1, if_neg h2, ite_self]
