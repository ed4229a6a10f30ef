/-! ===== the answers about zones, the same for both sides ===== -/
abbrev okW (ic md : Nat → Int32) (w : Int) : Prop := 0 ≤ w ∧ w < YSf md (ic 4).toInt (ic 5).toInt 100 * 1440
def CHp (k : Nat) (TT : Nat → TST) (x r : Int) : Prop := (¬ (0 ≤ x ∧ x < (k : Int)) ∧ r = -1) ∨ ∃ i : Nat, (i : Int) = x ∧ i < k ∧ r = ((TT i).1 : Int)
def CGp (k : Nat) (TT : Nat → TST) (x q r : Int) : Prop := (¬ (0 ≤ x ∧ x < (k : Int)) ∧ r = -1) ∨ ∃ i : Nat, (i : Int) = x ∧ i < k ∧ ((0 ≤ q ∧ q < ((TT i).1 : Int) ∧ r = (TT i).2.1 (q.toNat + 1)) ∨ (¬ (0 ≤ q ∧ q < ((TT i).1 : Int)) ∧ r = -1))
def OFp (k : Nat) (TT : Nat → TST) (x m r : Int) : Prop := (¬ ((0 ≤ x ∧ x < (k : Int)) ∧ 0 ≤ m ∧ m < 60000000) ∧ r = -9999) ∨ ∃ i j : Nat, (i : Int) = x ∧ i < k ∧ (0 ≤ m ∧ m < 60000000) ∧ isTT (TT i) m j ∧ r = (TT i).2.2 j
def WAp (ic md : Nat → Int32) (k : Nat) (TT : Nat → TST) (x m r : Int) : Prop := (¬ ((0 ≤ x ∧ x < (k : Int)) ∧ 0 ≤ m ∧ m < 60000000) ∧ r = -1) ∨ ∃ i j : Nat, (i : Int) = x ∧ i < k ∧ (0 ≤ m ∧ m < 60000000) ∧ isTT (TT i) m j ∧ ((okW ic md (m + (TT i).2.2 j) ∧ r = m + (TT i).2.2 j) ∨ (¬ okW ic md (m + (TT i).2.2 j) ∧ r = -6))
def MSp (ic md : Nat → Int32) (k : Nat) (TT : Nat → TST) (x w r : Int) : Prop := (¬ ((0 ≤ x ∧ x < (k : Int)) ∧ okW ic md w) ∧ r = -1) ∨ ∃ i : Nat, (i : Int) = x ∧ i < k ∧ okW ic md w ∧ r = (cntU (TT i) w ((TT i).1 + 1) : Int)
def MTp (ic md : Nat → Int32) (k : Nat) (TT : Nat → TST) (x w q r : Int) : Prop := (¬ ((0 ≤ x ∧ x < (k : Int)) ∧ okW ic md w) ∧ r = -1) ∨ ∃ (i : Nat) (s : Int), (i : Int) = x ∧ i < k ∧ okW ic md w ∧ MoT (TT i) w q s ∧ r = if s = -1 then -6 else s
section ZAN
variable {ic md : Nat → Int32} {k : Nat} {TT : Nat → TST} {x m w q r s : Int}
theorem CHp_one (h1 : CHp k TT x r) (h2 : CHp k TT x s) : r = s := by
  rcases h1 with ⟨a, b⟩ | ⟨i, a, b, c⟩
  · rcases h2 with ⟨d, e⟩ | ⟨j, d, e, f⟩
    · omega
    · exact absurd (by omega) a
  · rcases h2 with ⟨d, e⟩ | ⟨j, d, e, f⟩
    · exact absurd (by omega) d
    · have : i = j := by omega
      subst this; rw [c, f]
theorem CGp_one (h1 : CGp k TT x q r) (h2 : CGp k TT x q s) : r = s := by
  rcases h1 with ⟨a, b⟩ | ⟨i, a, b, c⟩
  · rcases h2 with ⟨d, e⟩ | ⟨j, d, e, f⟩
    · omega
    · exact absurd (by omega) a
  · rcases h2 with ⟨d, e⟩ | ⟨j, d, e, f⟩
    · exact absurd (by omega) d
    · have : i = j := by omega
      subst this
      rcases c with ⟨c1, c2, c3⟩ | ⟨c1, c2⟩
      · rcases f with ⟨f1, f2, f3⟩ | ⟨f1, f2⟩
        · rw [c3, f3]
        · exact absurd ⟨c1, c2⟩ f1
      · rcases f with ⟨f1, f2, f3⟩ | ⟨f1, f2⟩
        · exact absurd ⟨f1, f2⟩ c1
        · rw [c2, f2]
theorem OFp_one (h1 : OFp k TT x m r) (h2 : OFp k TT x m s) : r = s := by
  rcases h1 with ⟨a, b⟩ | ⟨i, u, a, b, c, c1, c2⟩
  · rcases h2 with ⟨d, e⟩ | ⟨j, v, d, e, f, f1, f2⟩
    · omega
    · exact absurd ⟨by omega, f⟩ a
  · rcases h2 with ⟨d, e⟩ | ⟨j, v, d, e, f, f1, f2⟩
    · exact absurd ⟨by omega, c⟩ d
    · have : i = j := by omega
      subst this
      rw [c2, f2, isTT_one c1 f1]
theorem WAp_one (h1 : WAp ic md k TT x m r) (h2 : WAp ic md k TT x m s) : r = s := by
  rcases h1 with ⟨a, b⟩ | ⟨i, u, a, b, c, c1, c2⟩
  · rcases h2 with ⟨d, e⟩ | ⟨j, v, d, e, f, f1, f2⟩
    · omega
    · exact absurd ⟨by omega, f⟩ a
  · rcases h2 with ⟨d, e⟩ | ⟨j, v, d, e, f, f1, f2⟩
    · exact absurd ⟨by omega, c⟩ d
    · have : i = j := by omega
      subst this
      rw [isTT_one c1 f1] at c2
      rcases c2 with ⟨c3, c4⟩ | ⟨c3, c4⟩
      · rcases f2 with ⟨f3, f4⟩ | ⟨f3, f4⟩
        · rw [c4, f4]
        · exact absurd c3 f3
      · rcases f2 with ⟨f3, f4⟩ | ⟨f3, f4⟩
        · exact absurd f3 c3
        · rw [c4, f4]
theorem MSp_one (h1 : MSp ic md k TT x w r) (h2 : MSp ic md k TT x w s) : r = s := by
  rcases h1 with ⟨a, b⟩ | ⟨i, a, b, c, c1⟩
  · rcases h2 with ⟨d, e⟩ | ⟨j, d, e, f, f1⟩
    · omega
    · exact absurd ⟨by omega, f⟩ a
  · rcases h2 with ⟨d, e⟩ | ⟨j, d, e, f, f1⟩
    · exact absurd ⟨by omega, c⟩ d
    · have : i = j := by omega
      subst this
      rw [c1, f1]
theorem MTp_one (h1 : MTp ic md k TT x w q r) (h2 : MTp ic md k TT x w q s) : r = s := by
  rcases h1 with ⟨a, b⟩ | ⟨i, u, a, b, c, c1, c2⟩
  · rcases h2 with ⟨d, e⟩ | ⟨j, v, d, e, f, f1, f2⟩
    · omega
    · exact absurd ⟨by omega, f⟩ a
  · rcases h2 with ⟨d, e⟩ | ⟨j, v, d, e, f, f1, f2⟩
    · exact absurd ⟨by omega, c⟩ d
    · have : i = j := by omega
      subst this
      rw [c2, f2, MoT_one c1 f1]
end ZAN
