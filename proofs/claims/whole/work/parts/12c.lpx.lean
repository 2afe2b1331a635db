theorem lpl {α β : Type} {f : α → α ⊕ β} {d R : β} {n : Nat} {x y : α} (hF : lp f d (n + 1) x = R) (h : f x = .inl y) : lp f d n y = R := (lp_l h).symm.trans hF
theorem lpr {α β : Type} {f : α → α ⊕ β} {d R : β} {n : Nat} {x : α} {r : β} (hF : lp f d (n + 1) x = R) (h : f x = .inr r) : r = R := (lp_r h).symm.trans hF
