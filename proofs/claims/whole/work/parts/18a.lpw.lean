/-- the same loop, kept shut: by a measure -/
def lpw {α β : Type} (f : α → α ⊕ β) (d : β) (n : Nat) (x : α) : β :=
  if h : n = 0 then d
  else match f x with
    | .inl y => lpw f d (n - 1) y
    | .inr r => r
termination_by n
decreasing_by omega
theorem lpw_eq {α β : Type} (f : α → α ⊕ β) (d : β) : ∀ (n : Nat) (x : α), lpw f d n x = lp f d n x
  | 0, x => by rw [lpw]; rfl
  | n + 1, x => by
    rw [lpw, dif_neg (by omega)]
    show (match f x with | .inl y => lpw f d (n + 1 - 1) y | .inr r => r) = (match f x with | .inl y => lp f d n y | .inr r => r)
    cases f x with
    | inl y => exact lpw_eq f d n y
    | inr r => rfl
theorem lpwl {α β : Type} {f : α → α ⊕ β} {d R : β} {n : Nat} {x y : α} (hF : lpw f d (n + 1) x = R) (h : f x = .inl y) : lpw f d n y = R := by
  rw [lpw_eq] at hF ⊢
  exact lpl hF h
theorem lpwr {α β : Type} {f : α → α ⊕ β} {d R : β} {n : Nat} {x : α} {r : β} (hF : lpw f d (n + 1) x = R) (h : f x = .inr r) : r = R := by
  rw [lpw_eq] at hF
  exact lpr hF h
