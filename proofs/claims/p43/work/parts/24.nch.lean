/-- the notices' chimneys -/
def nchS (M : Mm) (r n : Nat) : Prop := ∀ e, e < n → (M (noP r e) 0).toNatClampNeg < 8 ∧ M (noP r e) 0 = nI (M (noP r e) 0).toNatClampNeg

