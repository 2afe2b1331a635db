def cL8 (f g : Nat → Int64) : Nat → Int64 := vp_updL (vp_updL (vp_updL (vp_updL (vp_updL (vp_updL (vp_updL (vp_updL g 0 (f 0)) 1 (f 1)) 2 (f 2)) 3 (f 3)) 4 (f 4)) 5 (f 5)) 6 (f 6)) 7 (f 7)
def cI8 (f g : Nat → Int32) : Nat → Int32 := upd (upd (upd (upd (upd (upd (upd (upd g 0 (f 0)) 1 (f 1)) 2 (f 2)) 3 (f 3)) 4 (f 4)) 5 (f 5)) 6 (f 6)) 7 (f 7)
theorem cL8_at (f g : Nat → Int64) : ∀ k, k < 8 → cL8 f g k = f k
  | 0, _ => rfl
  | 1, _ => rfl
  | 2, _ => rfl
  | 3, _ => rfl
  | 4, _ => rfl
  | 5, _ => rfl
  | 6, _ => rfl
  | 7, _ => rfl
  | k + 8, h => absurd h (by omega)
theorem cI8_at (f g : Nat → Int32) : ∀ k, k < 8 → cI8 f g k = f k
  | 0, _ => rfl
  | 1, _ => rfl
  | 2, _ => rfl
  | 3, _ => rfl
  | 4, _ => rfl
  | 5, _ => rfl
  | 6, _ => rfl
  | 7, _ => rfl
  | k + 8, h => absurd h (by omega)
def wS (s : SM) : SM := pM_TW (pM_KW (pM_PW (pM_LW s (cL8 (gM_L s) (gM_LW s))) (cI8 (gM_P s) (gM_PW s))) (cI8 (gM_K s) (gM_KW s))) (cL8 (gM_T s) (gM_TW s))
theorem mvC_eq (s : SM) (n t u : Int32) : f_X3_moved_C s n t u = (0 + ts (nA (f_X3_does (wS s) n t u)) 8, pM_CG (f_X3_does (wS s) n t u) (adc (gM_CG (f_X3_does (wS s) n t u)) (ts (nL (gM_L (f_X3_does (wS s) n t u)) (gM_LW (f_X3_does (wS s) n t u))) 8) (ts (nN (gM_P (f_X3_does (wS s) n t u)) (gM_PW (f_X3_does (wS s) n t u))) 8) (ts (nN (gM_K (f_X3_does (wS s) n t u)) (gM_KW (f_X3_does (wS s) n t u))) 8) (ts (nL (gM_T (f_X3_does (wS s) n t u)) (gM_TW (f_X3_does (wS s) n t u))) 8))) := by
  unfold f_X3_moved_C
  simp only [tn0, tn1, tn2, tn3, tn4, tn5, tn6, tn7]
  exact mvl_C n t u ((0 : Int32), s) 8 (by decide) (f_X3_does (wS s) n t u) 0
theorem mvA_eq (s : SM) (n t u : Int32) : f_X3_moved_A s n t u = (0 + ts (nA (f_X3_does (wS s) n t u)) 8, pM_AL (f_X3_does (wS s) n t u) (adc (gM_AL (f_X3_does (wS s) n t u)) (ts (nL (gM_L (f_X3_does (wS s) n t u)) (gM_LW (f_X3_does (wS s) n t u))) 8) (ts (nN (gM_P (f_X3_does (wS s) n t u)) (gM_PW (f_X3_does (wS s) n t u))) 8) (ts (nN (gM_K (f_X3_does (wS s) n t u)) (gM_KW (f_X3_does (wS s) n t u))) 8) (ts (nL (gM_T (f_X3_does (wS s) n t u)) (gM_TW (f_X3_does (wS s) n t u))) 8))) := by
  unfold f_X3_moved_A
  simp only [tn0, tn1, tn2, tn3, tn4, tn5, tn6, tn7]
  exact mvl_A n t u ((0 : Int32), s) 8 (by decide) (f_X3_does (wS s) n t u) 0
theorem st_mvC (s : SM) (n t u : Int32) : gM_st (f_X3_moved_C s n t u).2 = gM_st s := by
  rw [mvC_eq]
  show (f_X3_does (wS s) n t u).2.2.2.1 = _
  rw [sd_does]
  rfl
theorem dm_lt {k st y : Int32} {j i q : Nat} (h : ¬ k * st ≤ y) (hj : y = nI j) (hk : k = nI i) (hq : st = nI q) (hb : j ≤ i * q) : j < i * q := by
  rcases Nat.lt_or_ge j (i * q) with h1 | h1
  · exact h1
  · exfalso
    have e : j = i * q := by omega
    apply h
    rw [hk, hq, hj, pk_mul, e]
    exact Int32.le_refl _
theorem dm_q {j i q : Nat} (h : j < i * q) : 0 < q := by
  rcases Nat.eq_zero_or_pos q with h1 | h1
  · subst h1
    simp at h
  · exact h1
theorem dm_ne {st : Int32} {j i q : Nat} (hq : st = nI q) (hq4 : q ≤ 40) (h : j < i * q) : ¬ st = 0 := by
  rw [hq]
  exact nI_ne0 (dm_q h) (by omega)
theorem dm_x {x st y : Int32} {j i q : Nat} (hx : y - y / st * st = x) (hj : y = nI j) (hq : st = nI q) (hq4 : q ≤ 40) (h : j < i * q) (hj4 : j < 2 ^ 31) : x = nI (j % q) ∧ j % q < 40 := by
  have h0 := dm_q h
  refine ⟨?_, by have := Nat.mod_lt j h0; omega⟩
  rw [← hx, hj, hq]
  exact pk_rem hj4 h0 (by omega)
theorem dm_j {j i q : Nat} (hq4 : q ≤ 40) (h : j < i * q) (hi : i ≤ 50) : j < 2 ^ 31 := by
  have := Nat.mul_le_mul hi hq4
  omega
theorem dm_i0 {x st y : Int32} {j i q : Nat} (hx : y - y / st * st = x) (hj : y = nI j) (hq : st = nI q) (hq4 : q ≤ 40) (h : j < i * q) (hi : i ≤ 50) : vp_in (3 * x) 120 := by
  obtain ⟨e, hr⟩ := dm_x hx hj hq hq4 h (dm_j hq4 h hi)
  rw [e, show (3 : Int32) * nI (j % q) = nI (3 * (j % q)) from pk_mul 3 _]
  exact nI_in (by omega) (by decide)
theorem dm_i1 {x st y : Int32} {j i q : Nat} (hx : y - y / st * st = x) (hj : y = nI j) (hq : st = nI q) (hq4 : q ≤ 40) (h : j < i * q) (hi : i ≤ 50) : vp_in (3 * x + 1) 120 := by
  obtain ⟨e, hr⟩ := dm_x hx hj hq hq4 h (dm_j hq4 h hi)
  rw [e, show (3 : Int32) * nI (j % q) = nI (3 * (j % q)) from pk_mul 3 _, nI_1]
  exact nI_in (by omega) (by decide)
theorem dm_i2 {x st y : Int32} {j i q : Nat} (hx : y - y / st * st = x) (hj : y = nI j) (hq : st = nI q) (hq4 : q ≤ 40) (h : j < i * q) (hi : i ≤ 50) : vp_in (3 * x + 2) 120 := by
  obtain ⟨e, hr⟩ := dm_x hx hj hq hq4 h (dm_j hq4 h hi)
  rw [e, show (3 : Int32) * nI (j % q) = nI (3 * (j % q)) from pk_mul 3 _, show nI (3 * (j % q)) + 2 = nI (3 * (j % q) + 2) from nI_add _ 2]
  exact nI_in (by omega) (by decide)
