/-- a loop: again (inl) or done (inr), at most n times -/
def lp {α β : Type} (f : α → α ⊕ β) (d : β) : Nat → α → β
  | 0, _ => d
  | n + 1, x => match f x with
    | .inl y => lp f d n y
    | .inr r => r
theorem lp_l {α β : Type} {f : α → α ⊕ β} {d : β} {n : Nat} {x y : α} (h : f x = .inl y) : lp f d (n + 1) x = lp f d n y := by
  show (match f x with | .inl y => lp f d n y | .inr r => r) = _
  rw [h]
theorem lp_r {α β : Type} {f : α → α ⊕ β} {d : β} {n : Nat} {x : α} {r : β} (h : f x = .inr r) : lp f d (n + 1) x = r := by
  show (match f x with | .inl y => lp f d n y | .inr r => r) = _
  rw [h]
theorem nle_lt {x M : Int32} {j N : Nat} (h : ¬ M ≤ x) (hx : x = nI j) (hM : M = nI N) (hN : N < 2 ^ 31) : j < N ∨ 2 ^ 31 ≤ j := by
  subst hx
  subst hM
  by_cases hj : j < 2 ^ 31
  · left
    exact Nat.not_le.mp (fun q => h (nI_le q hj))
  · right
    omega
theorem lt_lt {x M : Int32} {j N : Nat} (h : x < M) (hx : x = nI j) (hM : M = nI N) (hN : N < 2 ^ 31) : j < N ∨ 2 ^ 31 ≤ j := nle_lt (Int32.not_le.mpr h) hx hM hN
theorem nle_tr {k y M : Int32} (h1 : ¬ k ≤ y) (h2 : k ≤ M) : ¬ M ≤ y := fun h => h1 (Int32.le_trans h2 h)
theorem le_le {x M : Int32} {j N : Nat} (h : M ≤ x) (hx : x = nI j) (hM : M = nI N) (hN : N < 2 ^ 31) : N ≤ j ∨ 2 ^ 31 ≤ j := by
  subst hx
  subst hM
  by_cases hj : j < 2 ^ 31
  · left
    exact (nI_leI hN hj).mp h
  · right
    omega
section BST
variable {p : Program} {l : Launch} {e : Env} {R : Room} {s : State} {m : MethodId} {args : Array Value} {below : List Frame} {meth : Method} {c : Code} {H : Heap} {locs : List Loc} {cells slots : Nat} {Q : State → Prop} {pc : Nat} {ls : Array Slot} {rest : List Value}
theorem tpi {x : Int32} (k : ∀ y : Int32, x = y → W p l e R s m args below meth c H locs cells slots Q (F0 m pc ls (.int y :: rest))) : W p l e R s m args below meth c H locs cells slots Q (F0 m pc ls (.int x :: rest)) := k x rfl
theorem tpl {x : Int64} (k : ∀ y : Int64, x = y → W p l e R s m args below meth c H locs cells slots Q (F0 m pc ls (.long y :: rest))) : W p l e R s m args below meth c H locs cells slots Q (F0 m pc ls (.long x :: rest)) := k x rfl
end BST
