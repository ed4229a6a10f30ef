/-! ===== programs of the class: they stay well formed ===== -/
abbrev rP (ad : Nat → Nat) (b : Nat) : Nat → Option Nat := rfs ad [b + 1, b + 2, b + 3, b + 4, b + 5]
def FR (G : Gl) (ad : Nat → Nat) (b : Nat) (E E' : Nat → va_E) (ip : Nat → Int32) : Prop := ∃ ip' kd : Nat → Int32, E' b = ob 5 (rP ad b) ip' ∧ (∀ k, k ≠ 5 → ip' k = ip k) ∧ 0 ≤ (ip' 5).toInt ∧ (ip' 5).toInt ≤ 8 ∧ E' (b + 5) = aI G 8 kd ∧ ∀ j, j ≠ b → j ≠ b + 5 → E' j = E j
def FT (G : Gl) (ad : Nat → Nat) (b : Nat) (E E' : Nat → va_E) (ip : Nat → Int32) : Prop := ∃ ip' tp kd : Nat → Int32, E' b = ob 5 (rP ad b) ip' ∧ ip' 6 = ip 6 ∧ 0 ≤ (ip' 5).toInt ∧ (ip' 5).toInt ≤ 8 ∧ E' (b + 4) = aI G 10 tp ∧ E' (b + 5) = aI G 8 kd ∧ ∀ j, j ≠ b → j ≠ b + 4 → j ≠ b + 5 → E' j = E j
