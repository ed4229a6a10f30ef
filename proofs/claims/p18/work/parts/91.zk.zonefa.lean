/-! ===== a rule told ===== -/
abbrev okRU (k : Nat) (wk z y o a v : Int) : Prop := (0 ≤ z ∧ z < (k : Int)) ∧ (0 ≤ y ∧ y / 100 < 100 ∧ y / 100 ≤ y % 100) ∧ (0 ≤ o ∧ o / 1000 < 12 ∧ o / 10 % 100 < wk ∧ o % 10 ≤ 4) ∧ (0 ≤ a ∧ a ≤ 1439) ∧ -720 ≤ v ∧ v ≤ 720
