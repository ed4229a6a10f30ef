/-! ===== a fresh object: what its calls answer ===== -/
def ip0 : Nat → Int32 := fun _ => 0
abbrev okLaw (w v : Int) : Prop := w = 0 ∨ w = 3 ∨ (w = 4 ∧ v = 0)
abbrev okMom (a : Int) : Prop := 0 ≤ a ∧ a < 60000000
abbrev okRng (a b : Int) : Prop := 0 ≤ a ∧ a < 60000000 ∧ 0 ≤ b ∧ b < 60000000 ∧ a ≤ b ∧ b - a ≤ 2000000
abbrev okRch (a m most : Int) : Prop := 0 ≤ a ∧ a < 60000000 ∧ 0 ≤ m ∧ m ≤ most ∧ a + m < 60000000
abbrev okPr (p : Int) : Prop := 0 ≤ p ∧ p < 6
abbrev okLine (op x y : Int) : Prop := ((op = 0 ∨ op = 2 ∨ op = 8 ∨ op = 9 ∨ op = 10 ∨ op = 11) ∧ x = 0 ∧ y = 0) ∨ (op = 3 ∧ 0 ≤ x ∧ x ≤ 1439 ∧ y = 0) ∨ (op = 5 ∧ -9999 ≤ x ∧ x ≤ 9999 ∧ y = 0) ∨ (op = 6 ∧ -999 ≤ x ∧ x ≤ 999 ∧ y = 0) ∨ (op = 7 ∧ -99 ≤ x ∧ x ≤ 99 ∧ 0 ≤ y ∧ y ≤ 2)
def Fr8 (E E' : Nat → va_E) : Prop := ∀ j, 68 ≤ j → E' j = E j
