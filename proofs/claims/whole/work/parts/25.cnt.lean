/-! counting what changed; the class's changes one by one -/
theorem neL_self (x : Int64) : neL x x = 0 := if_pos rfl
theorem neI_self (x : Int32) : neI x x = 0 := if_pos rfl
theorem neL_comm (x y : Int64) : neL x y = neL y x := by
  unfold neL
  by_cases h : x = y
  · rw [if_pos h, if_pos h.symm]
  · rw [if_neg h, if_neg (fun e => h e.symm)]
theorem neI_comm (x y : Int32) : neI x y = neI y x := by
  unfold neI
  by_cases h : x = y
  · rw [if_pos h, if_pos h.symm]
  · rw [if_neg h, if_neg (fun e => h e.symm)]
theorem ts_0 {d : Nat → Int32} (h : ∀ k, k < 8 → d k = 0) : ∀ n, n ≤ 8 → ts d n = 0
  | 0, _ => rfl
  | n + 1, hn => by
    show d (7 - n) + ts d n = 0
    rw [h (7 - n) (by omega), ts_0 h n (by omega)]
    rfl
theorem ts_one {d : Nat → Int32} {t : Nat} (h : ∀ k, k < 8 → k ≠ t → d k = 0) : ∀ n, n ≤ 8 → ts d n = if 8 - n ≤ t ∧ t < 8 then d t else 0
  | 0, _ => by
    rw [if_neg (by omega)]
    rfl
  | n + 1, hn => by
    show d (7 - n) + ts d n = _
    rw [ts_one h n (by omega)]
    by_cases e : t = 7 - n
    · subst e
      rw [if_neg (by omega), if_pos (by omega), Int32.add_zero]
    · rw [h (7 - n) (by omega) (fun q => e q.symm), Int32.zero_add]
      by_cases c : 8 - n ≤ t ∧ t < 8
      · rw [if_pos c, if_pos (by omega)]
      · rw [if_neg c, if_neg (by omega)]
theorem ts_add (d e : Nat → Int32) : ∀ n, ts (fun k => d k + e k) n = ts d n + ts e n
  | 0 => rfl
  | n + 1 => by
    show d (7 - n) + e (7 - n) + ts (fun k => d k + e k) n = d (7 - n) + ts d n + (e (7 - n) + ts e n)
    rw [ts_add d e n]
    have key : ∀ a b c d : Int32, a + b + (c + d) = a + c + (b + d) := fun a b c d => by rw [Int32.add_assoc, Int32.add_assoc, ← Int32.add_assoc b c d, Int32.add_comm b c, Int32.add_assoc c b d]
    exact key _ _ _ _
theorem ts_at {d : Nat → Int32} {t : Nat} (ht : t < 8) (h : ∀ k, k < 8 → k ≠ t → d k = 0) : ts d 8 = d t := by
  rw [ts_one h 8 (by decide), if_pos (by omega)]
theorem ts_two {d : Nat → Int32} {t u : Nat} (ht : t < 8) (hu : u < 8) (htu : t ≠ u) (h : ∀ k, k < 8 → k ≠ t → k ≠ u → d k = 0) : ts d 8 = d t + d u := by
  have e : ts d 8 = ts (fun k => (if k = t then d k else 0) + (if k = t then 0 else d k)) 8 := by
    refine ts_congr (fun k _ => ?_) 8 (by decide)
    by_cases c : k = t
    · rw [if_pos c, if_pos c, Int32.add_zero]
    · rw [if_neg c, if_neg c, Int32.zero_add]
  rw [e, ts_add, ts_at (t := t) ht (fun k _ c => if_neg c), if_pos rfl, ts_at (t := u) hu (fun k hk c => by
    by_cases c2 : k = t
    · rw [if_pos c2]
    · rw [if_neg c2]; exact h k hk c2 c), if_neg (fun q => htu q.symm)]
theorem up_self {f : Nat → Int32} {t : Nat} : upd f t (f t) = f := by
  funext k
  unfold upd
  split
  · rename_i h; rw [h]
  · rfl
theorem upL_self {f : Nat → Int64} {t : Nat} : vp_updL f t (f t) = f := by
  funext k
  unfold vp_updL
  split
  · rename_i h; rw [h]
  · rfl
theorem ct_L {f : Nat → Int64} {t : Nat} {x : Int64} (ht : t < 8) : ts (nL (vp_updL f t x) f) 8 = neL (f t) x := by
  rw [ts_at (t := t) ht (fun k _ c => by show neL (vp_updL f t x k) (f k) = 0; rw [pk_uLn c, neL_self])]
  show neL (vp_updL f t x t) (f t) = _
  rw [pk_uLs, neL_comm]
theorem ct_N {f : Nat → Int32} {t : Nat} {x : Int32} (ht : t < 8) : ts (nN (upd f t x) f) 8 = neI (f t) x := by
  rw [ts_at (t := t) ht (fun k _ c => by show neI (upd f t x k) (f k) = 0; rw [pk_un c, neI_self])]
  show neI (upd f t x t) (f t) = _
  rw [pk_us, neI_comm]
theorem ct_L0 {f : Nat → Int64} : ts (nL f f) 8 = 0 := ts_0 (fun k _ => neL_self _) 8 (by decide)
theorem ct_N0 {f : Nat → Int32} : ts (nN f f) 8 = 0 := ts_0 (fun k _ => neI_self _) 8 (by decide)
theorem ct_L2 {f : Nat → Int64} {t u : Nat} (ht : t < 8) (hu : u < 8) : ts (nL (vp_updL (vp_updL f t (f u)) u (f t)) f) 8 = neL (f t) (f u) + neL ((vp_updL f t (f u)) u) (f t) := by
  by_cases c : t = u
  · subst c
    rw [upL_self, upL_self, ct_L0, neL_self]
    rfl
  · rw [ts_two ht hu c (fun k _ c1 c2 => by show neL (vp_updL (vp_updL f t (f u)) u (f t) k) (f k) = 0; rw [pk_uLn c2, pk_uLn c1, neL_self])]
    show neL (vp_updL (vp_updL f t (f u)) u (f t) t) (f t) + neL (vp_updL (vp_updL f t (f u)) u (f t) u) (f u) = _
    rw [pk_uLn c, pk_uLs, pk_uLs, pk_uLn (fun q => c q.symm), neL_comm (f u) (f t), neL_comm (f t) (f u)]
theorem ct_N2 {f : Nat → Int32} {t u : Nat} (ht : t < 8) (hu : u < 8) : ts (nN (upd (upd f t (f u)) u (f t)) f) 8 = neI (f t) (f u) + neI ((upd f t (f u)) u) (f t) := by
  by_cases c : t = u
  · subst c
    rw [up_self, up_self, ct_N0, neI_self]
    rfl
  · rw [ts_two ht hu c (fun k _ c1 c2 => by show neI (upd (upd f t (f u)) u (f t) k) (f k) = 0; rw [pk_un c2, pk_un c1, neI_self])]
    show neI (upd (upd f t (f u)) u (f t) t) (f t) + neI (upd (upd f t (f u)) u (f t) u) (f u) = _
    rw [pk_un c, pk_us, pk_us, pk_un (fun q => c q.symm), neI_comm (f u) (f t), neI_comm (f t) (f u)]
def ad1 (f : Nat → Int32) (a b c d : Int32) : Nat → Int32 := upd (upd (upd (upd f 1 (f 1 + a)) 2 (f 2 + b)) 3 (f 3 + c)) 4 (f 4 + d)
theorem ad1_v (f : Nat → Int32) (a b c d : Int32) (k : Nat) : ad1 f a b c d k = if k = 4 then f 4 + d else if k = 3 then f 3 + c else if k = 2 then f 2 + b else if k = 1 then f 1 + a else f k := rfl
theorem ad1_0 (f : Nat → Int32) : ad1 f 0 0 0 0 = f := by
  funext k
  rw [ad1_v]
  simp only [Int32.add_zero]
  repeat' split
  all_goals first | rfl | (subst_vars; rfl)
theorem ad1_ad1 (f : Nat → Int32) (a b c d a2 b2 c2 d2 : Int32) : ad1 (ad1 f a b c d) a2 b2 c2 d2 = ad1 f (a + a2) (b + b2) (c + c2) (d + d2) := by
  funext k
  by_cases h1 : k = 1
  · subst h1; show f 1 + a + a2 = f 1 + (a + a2); rw [Int32.add_assoc]
  · by_cases h2 : k = 2
    · subst h2; show f 2 + b + b2 = f 2 + (b + b2); rw [Int32.add_assoc]
    · by_cases h3 : k = 3
      · subst h3; show f 3 + c + c2 = f 3 + (c + c2); rw [Int32.add_assoc]
      · by_cases h4 : k = 4
        · subst h4; show f 4 + d + d2 = f 4 + (d + d2); rw [Int32.add_assoc]
        · simp [ad1_v, h1, h2, h3, h4]
abbrev uL (c : Cor) (t : Nat) (x : Int64) : Cor := ((vp_updL c.1.1 t x, c.1.2), c.2)
abbrev uP (c : Cor) (t : Nat) (x : Int32) : Cor := ((c.1.1, upd c.1.2.1 t x, c.1.2.2), c.2)
abbrev uK (c : Cor) (t : Nat) (x : Int32) : Cor := ((c.1.1, c.1.2.1, upd c.1.2.2.1 t x, c.1.2.2.2), c.2)
abbrev uT (c : Cor) (t : Nat) (x : Int64) : Cor := ((c.1.1, c.1.2.1, c.1.2.2.1, vp_updL c.1.2.2.2.1 t x, c.1.2.2.2.2), c.2)
def NB (s : SB) (c : Cor) (a b d e : Int32) : SB := (c, s.2.1, s.2.2.1, ad1 s.2.2.2.1 a b d e, s.2.2.2.2)
theorem NB_0 (s : SB) : NB s s.1 0 0 0 0 = s := by
  unfold NB
  rw [ad1_0]
theorem chL (s : SB) (c : Cor) (a b d e : Int32) (t : Int32) (x : Int64) : f_X2_changeLength (NB s c a b d e) t x = NB s (uL c t.toNatClampNeg x) (a + neL (c.1.1 t.toNatClampNeg) x) b d e := by
  unfold f_X2_changeLength
  rw [tn1]
  by_cases h : gB_L (NB s c a b d e) t.toNatClampNeg = x
  · rw [if_pos h]
    have h2 : c.1.1 t.toNatClampNeg = x := h
    rw [← h2, neL_self, Int32.add_zero]
    unfold uL
    rw [upL_self]
  · rw [if_neg h]
    have h2 : ¬ c.1.1 t.toNatClampNeg = x := h
    unfold neL
    rw [if_neg h2]
    show (_, s.2.1, s.2.2.1, upd (ad1 s.2.2.2.1 a b d e) 1 (ad1 s.2.2.2.1 a b d e 1 + 1), s.2.2.2.2) = (_, s.2.1, s.2.2.1, ad1 s.2.2.2.1 (a + 1) b d e, s.2.2.2.2)
    congr 4
    funext k
    unfold upd
    rw [ad1_v, ad1_v, ad1_v]
    by_cases k1 : k = 1
    · subst k1; simp [Int32.add_assoc]
    · simp [k1]
theorem chP (s : SB) (c : Cor) (a b d e : Int32) (t : Int32) (x : Int32) : f_X2_changePull (NB s c a b d e) t x = NB s (uP c t.toNatClampNeg x) a (b + neI (c.1.2.1 t.toNatClampNeg) x) d e := by
  unfold f_X2_changePull
  rw [tn2]
  by_cases h : gB_P (NB s c a b d e) t.toNatClampNeg = x
  · rw [if_pos h]
    have h2 : c.1.2.1 t.toNatClampNeg = x := h
    rw [← h2, neI_self, Int32.add_zero]
    unfold uP
    rw [up_self]
  · rw [if_neg h]
    have h2 : ¬ c.1.2.1 t.toNatClampNeg = x := h
    unfold neI
    rw [if_neg h2]
    show (_, s.2.1, s.2.2.1, upd (ad1 s.2.2.2.1 a b d e) 2 (ad1 s.2.2.2.1 a b d e 2 + 1), s.2.2.2.2) = (_, s.2.1, s.2.2.1, ad1 s.2.2.2.1 a (b + 1) d e, s.2.2.2.2)
    congr 4
    funext k
    unfold upd
    rw [ad1_v, ad1_v, ad1_v]
    by_cases k1 : k = 2
    · subst k1; simp [Int32.add_assoc]
    · simp [k1]
theorem chK (s : SB) (c : Cor) (a b d e : Int32) (t : Int32) (x : Int32) : f_X2_changeKnots (NB s c a b d e) t x = NB s (uK c t.toNatClampNeg x) a b (d + neI (c.1.2.2.1 t.toNatClampNeg) x) e := by
  unfold f_X2_changeKnots
  rw [tn3]
  by_cases h : gB_K (NB s c a b d e) t.toNatClampNeg = x
  · rw [if_pos h]
    have h2 : c.1.2.2.1 t.toNatClampNeg = x := h
    rw [← h2, neI_self, Int32.add_zero]
    unfold uK
    rw [up_self]
  · rw [if_neg h]
    have h2 : ¬ c.1.2.2.1 t.toNatClampNeg = x := h
    unfold neI
    rw [if_neg h2]
    show (_, s.2.1, s.2.2.1, upd (ad1 s.2.2.2.1 a b d e) 3 (ad1 s.2.2.2.1 a b d e 3 + 1), s.2.2.2.2) = (_, s.2.1, s.2.2.1, ad1 s.2.2.2.1 a b (d + 1) e, s.2.2.2.2)
    congr 4
    funext k
    unfold upd
    rw [ad1_v, ad1_v, ad1_v]
    by_cases k1 : k = 3
    · subst k1; simp [Int32.add_assoc]
    · simp [k1]
theorem chT (s : SB) (c : Cor) (a b d e : Int32) (t : Int32) (x : Int64) : f_X2_changeTwist (NB s c a b d e) t x = NB s (uT c t.toNatClampNeg x) a b d (e + neL (c.1.2.2.2.1 t.toNatClampNeg) x) := by
  unfold f_X2_changeTwist
  rw [tn4]
  by_cases h : gB_T (NB s c a b d e) t.toNatClampNeg = x
  · rw [if_pos h]
    have h2 : c.1.2.2.2.1 t.toNatClampNeg = x := h
    rw [← h2, neL_self, Int32.add_zero]
    unfold uT
    rw [upL_self]
  · rw [if_neg h]
    have h2 : ¬ c.1.2.2.2.1 t.toNatClampNeg = x := h
    unfold neL
    rw [if_neg h2]
    show (_, s.2.1, s.2.2.1, upd (ad1 s.2.2.2.1 a b d e) 4 (ad1 s.2.2.2.1 a b d e 4 + 1), s.2.2.2.2) = (_, s.2.1, s.2.2.1, ad1 s.2.2.2.1 a b d (e + 1), s.2.2.2.2)
    congr 4
    funext k
    unfold upd
    rw [ad1_v, ad1_v, ad1_v]
    by_cases k1 : k = 4
    · subst k1; simp [Int32.add_assoc]
    · simp [k1]
