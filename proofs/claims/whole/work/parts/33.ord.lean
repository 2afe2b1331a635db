def cnt (f : Nat → Int32) : Nat → Int32
  | 0 => 0
  | j + 1 => if f j = 0 then cnt f j else cnt f j + 1
theorem cnt_congr {f g : Nat → Int32} (h : ∀ j, f j = g j) : ∀ n, cnt f n = cnt g n
  | 0 => rfl
  | n + 1 => by
    show (if f n = 0 then cnt f n else cnt f n + 1) = (if g n = 0 then cnt g n else cnt g n + 1)
    rw [h n, cnt_congr h n]
theorem pl_lp (s : SB) (t : Int32) : ∀ n, n ≤ 8 → lp (fun x : Int32 × Int32 => f_X2_placeOf_b s t x.1 x.2) (0 : Int32) (n + 1) (cnt (fun j => f_X2_isAhead s (nI j) t) (8 - n), nI (8 - n)) = cnt (fun j => f_X2_isAhead s (nI j) t) 8
  | 0, _ => lp_r (if_pos (show (8 : Int32) ≤ nI (8 - 0) by decide))
  | n + 1, hn => by
    have e : 8 - (n + 1) = 7 - n := by omega
    have e2 : 8 - n = 7 - n + 1 := by omega
    rw [e]
    have ih := pl_lp s t n (by omega)
    by_cases c : f_X2_isAhead s (nI (7 - n)) t = 0
    · have e3 : cnt (fun j => f_X2_isAhead s (nI j) t) (8 - n) = cnt (fun j => f_X2_isAhead s (nI j) t) (7 - n) := by rw [e2]; exact if_pos c
      rw [e3, ← nI7 (by omega)] at ih
      have g : f_X2_placeOf_b s t (cnt (fun j => f_X2_isAhead s (nI j) t) (7 - n)) (nI (7 - n)) = .inl (cnt (fun j => f_X2_isAhead s (nI j) t) (7 - n), nI (7 - n) + 1) := (if_neg (nI8 (n := n) (by omega))).trans (if_pos c)
      exact (lp_l g).trans ih
    · have e3 : cnt (fun j => f_X2_isAhead s (nI j) t) (8 - n) = cnt (fun j => f_X2_isAhead s (nI j) t) (7 - n) + 1 := by rw [e2]; exact if_neg c
      rw [e3, ← nI7 (by omega)] at ih
      have g : f_X2_placeOf_b s t (cnt (fun j => f_X2_isAhead s (nI j) t) (7 - n)) (nI (7 - n)) = .inl (cnt (fun j => f_X2_isAhead s (nI j) t) (7 - n) + 1, nI (7 - n) + 1) := (if_neg (nI8 (n := n) (by omega))).trans (if_neg c)
      exact (lp_l g).trans ih
theorem pl_eq (s : SB) (t : Int32) : f_X2_placeOf s t = cnt (fun j => f_X2_isAhead s (nI j) t) 8 := pl_lp s t 8 (by decide)
theorem ah_self (m : SM) (t : Int32) : f_X3_isAhead m t t = 0 := by
  unfold f_X3_isAhead
  rw [if_pos rfl]
  by_cases c : gM_Z m t.toNatClampNeg = 0
  · rw [if_pos c, if_pos rfl, if_pos rfl, if_pos rfl, if_pos rfl, if_pos (Int32.le_refl _)]
  · rw [if_neg c, if_pos (Int32.le_refl _)]
theorem in_lp (m : SM) (k : Int32) (d : Int32) (i F : Nat) : ∀ p, p ≤ 8 → lp (fun x : Int32 × Int32 × Int32 => f_X3_order_b m k x.1 x.2.1 x.2.2) d (F + p) (nI i, cnt (fun j => f_X3_isAhead m (nI j) (nI i)) (8 - p), nI (8 - p)) = lp (fun x : Int32 × Int32 × Int32 => f_X3_order_b m k x.1 x.2.1 x.2.2) d F (nI i, cnt (fun j => f_X3_isAhead m (nI j) (nI i)) 8, nI 8)
  | 0, _ => rfl
  | p + 1, hp => by
    have e : 8 - (p + 1) = 7 - p := by omega
    have e2 : 8 - p = 7 - p + 1 := by omega
    rw [e]
    have ih := in_lp m k d i F p (by omega)
    have key : f_X3_order_b m k (nI i) (cnt (fun j => f_X3_isAhead m (nI j) (nI i)) (7 - p)) (nI (7 - p)) = .inl (nI i, cnt (fun j => f_X3_isAhead m (nI j) (nI i)) (8 - p), nI (8 - p)) := by
      unfold f_X3_order_b
      dsimp only
      rw [if_neg (nI8 (by omega)), Int32.add_zero, nI7 (by omega)]
      by_cases c1 : nI (7 - p) = nI i
      · have c : f_X3_isAhead m (nI (7 - p)) (nI i) = 0 := by rw [c1]; exact ah_self m _
        have e3 : cnt (fun j => f_X3_isAhead m (nI j) (nI i)) (8 - p) = cnt (fun j => f_X3_isAhead m (nI j) (nI i)) (7 - p) := by rw [e2]; exact if_pos c
        rw [if_pos c1, e3]
      · rw [if_neg c1]
        by_cases c : f_X3_isAhead m (nI (7 - p)) (nI i) = 0
        · have e3 : cnt (fun j => f_X3_isAhead m (nI j) (nI i)) (8 - p) = cnt (fun j => f_X3_isAhead m (nI j) (nI i)) (7 - p) := by rw [e2]; exact if_pos c
          rw [if_pos c, e3]
        · have e3 : cnt (fun j => f_X3_isAhead m (nI j) (nI i)) (8 - p) = cnt (fun j => f_X3_isAhead m (nI j) (nI i)) (7 - p) + 1 := by rw [e2]; exact if_neg c
          rw [if_neg c, e3]
    rw [← Nat.add_assoc]
    exact (lp_l key).trans ih
theorem or_lp (s : SB) (m : SM) (h1 : s.1 = m.1) (h2 : gB_Z s = gM_Z m) (k : Int32) : ∀ n, n ≤ 7 → lp (fun x : Int32 => f_X2_order_b s k x) (0 : Int32) (n + 2) (nI (7 - n)) = lp (fun x : Int32 × Int32 × Int32 => f_X3_order_b m k x.1 x.2.1 x.2.2) (0 : Int32) (9 * n + 9) (nI (7 - n), 0, 0)
  | n, hn => by
    have e1 := in_lp m k 0 (7 - n) (9 * n + 1) 8 (by decide)
    have e2 : lp (fun x : Int32 × Int32 × Int32 => f_X3_order_b m k x.1 x.2.1 x.2.2) (0 : Int32) (9 * n + 9) (nI (7 - n), 0, 0) = lp (fun x : Int32 × Int32 × Int32 => f_X3_order_b m k x.1 x.2.1 x.2.2) (0 : Int32) (9 * n + 1) (nI (7 - n), cnt (fun j => f_X3_isAhead m (nI j) (nI (7 - n))) 8, nI 8) := e1
    rw [e2]
    have hp : f_X2_placeOf s (nI (7 - n)) = cnt (fun j => f_X3_isAhead m (nI j) (nI (7 - n))) 8 := (pl_eq s _).trans (cnt_congr (fun j => q_ahead s m h1 h2 _ _) 8)
    by_cases c : cnt (fun j => f_X3_isAhead m (nI j) (nI (7 - n))) 8 = k
    · have g1 : f_X3_order_b m k (nI (7 - n)) (cnt (fun j => f_X3_isAhead m (nI j) (nI (7 - n))) 8) (nI 8) = .inr (nI (7 - n)) := (if_pos (show (8 : Int32) ≤ nI 8 by decide)).trans (if_pos c)
      have g2 : f_X2_order_b s k (nI (7 - n)) = .inr (nI (7 - n)) := (if_neg (nI8 (by omega))).trans (if_pos (hp.trans c))
      exact (lp_r g2).trans (lp_r g1).symm
    · have g2 : f_X2_order_b s k (nI (7 - n)) = .inl (nI (7 - n) + 1) := (if_neg (nI8 (by omega))).trans (if_neg (fun q => c (hp.symm.trans q)))
      rw [nI7 (by omega)] at g2
      match n, hn with
      | 0, _ =>
        have g1 : f_X3_order_b m k (nI (7 - 0)) (cnt (fun j => f_X3_isAhead m (nI j) (nI (7 - 0))) 8) (nI 8) = .inr (-1) := (if_pos (show (8 : Int32) ≤ nI 8 by decide)).trans ((if_neg c).trans (if_pos (show (8 : Int32) ≤ nI (7 - 0) + 1 by decide)))
        have g3 : f_X2_order_b s k (nI (8 - 0)) = .inr (-1) := if_pos (show (8 : Int32) ≤ nI (8 - 0) by decide)
        exact ((lp_l g2).trans (lp_r g3)).trans (lp_r g1).symm
      | n + 1, hn =>
        have e3 : 8 - (n + 1) = 7 - n := by omega
        have g1 : f_X3_order_b m k (nI (7 - (n + 1))) (cnt (fun j => f_X3_isAhead m (nI j) (nI (7 - (n + 1)))) 8) (nI 8) = .inl (nI (7 - n), 0, 0) := by
          unfold f_X3_order_b
          dsimp only
          rw [if_pos (show (8 : Int32) ≤ nI 8 by decide), if_neg c, nI7 (by omega), e3, if_neg (nI8 (by omega))]
        rw [e3] at g2
        exact ((lp_l g2).trans (or_lp s m h1 h2 k n (by omega))).trans (lp_l g1).symm
theorem q_order {s : SB} {m : SM} (h : RR s m) (k : Int32) : f_X2_order s k = f_X3_order m k := or_lp s m h.1 h.2.1 k 7 (by decide)
