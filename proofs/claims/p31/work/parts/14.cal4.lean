/-! ===== months by their number ===== -/
def FKf (ic md : Nat → Int32) (k : Nat) : Int := FDf ic md (k / 12) (k % 12)
def LKf (ic md : Nat → Int32) (k : Nat) : Int := DIf ic md (k / 12) (k % 12)
theorem FK_of {ic md : Nat → Int32} {y m : Nat} (hm : m < 12) : FKf ic md (12 * y + m) = FDf ic md y m := by
  unfold FKf
  rw [show (12 * y + m) / 12 = y by omega, show (12 * y + m) % 12 = m by omega]
theorem LK_of {ic md : Nat → Int32} {y m : Nat} (hm : m < 12) : LKf ic md (12 * y + m) = DIf ic md y m := by
  unfold LKf
  rw [show (12 * y + m) / 12 = y by omega, show (12 * y + m) % 12 = m by omega]
theorem FK_next {ic md : Nat → Int32} (h : CalP ic md) (k : Nat) : FKf ic md (k + 1) = FKf ic md k + LKf ic md k := by
  by_cases h1 : k % 12 + 1 < 12
  · unfold FKf LKf
    rw [show (k + 1) / 12 = k / 12 by omega, show (k + 1) % 12 = k % 12 + 1 by omega, FD_next]
  · unfold FKf LKf
    rw [show (k + 1) / 12 = k / 12 + 1 by omega, show (k + 1) % 12 = 0 by omega, ← FD_year h, show (12 : Nat) = k % 12 + 1 by omega, FD_next]
    rw [show k % (k % 12 + 1) = k % 12 by rw [show k % 12 + 1 = 12 by omega], show k / (k % 12 + 1) = k / 12 by rw [show k % 12 + 1 = 12 by omega]]
theorem LK_b {ic md : Nat → Int32} (h : CalP ic md) (k : Nat) : 1 ≤ LKf ic md k ∧ LKf ic md k ≤ 41 := DI_b h (by omega)
theorem FK_m {ic md : Nat → Int32} (h : CalP ic md) (k : Nat) : ∀ j : Nat, FKf ic md k + (j : Int) ≤ FKf ic md (k + j) := by
  intro j
  induction j with
  | zero => simp
  | succ j ih =>
    have h1 := LK_b h (k + j)
    rw [← Nat.add_assoc, FK_next h]
    omega
theorem FK_mono {ic md : Nat → Int32} (h : CalP ic md) {a b : Nat} (hab : a ≤ b) : FKf ic md a + ((b : Int) - a) ≤ FKf ic md b := by
  have := FK_m h a (b - a)
  rw [show a + (b - a) = b by omega] at this
  omega
theorem FK_end {ic md : Nat → Int32} (h : CalP ic md) : FKf ic md 1200 = YSf md (ic 4).toInt (ic 5).toInt 100 := FD_0 h
theorem FK_0 {ic md : Nat → Int32} (h : CalP ic md) : FKf ic md 0 = 0 := FD_0 (y := 0) h
theorem FK_lt {ic md : Nat → Int32} (h : CalP ic md) {k : Nat} (hk : k < 1200) : FKf ic md k + LKf ic md k ≤ YSf md (ic 4).toInt (ic 5).toInt 100 := by
  have h1 := FK_mono h (show k + 1 ≤ 1200 by omega)
  rw [FK_next h, FK_end h] at h1
  omega
theorem FK_b {ic md : Nat → Int32} (h : CalP ic md) {k : Nat} (hk : k ≤ 1200) : 0 ≤ FKf ic md k ∧ FKf ic md k ≤ 50000 := FD_b h (by omega) (by omega)
/-- a day lies in one month alone -/
theorem FK_one {ic md : Nat → Int32} (h : CalP ic md) {a b : Nat} {d : Int} (h1 : FKf ic md a ≤ d) (h2 : d < FKf ic md (a + 1)) (h3 : FKf ic md b ≤ d) (h4 : d < FKf ic md (b + 1)) : a = b := by
  rcases Nat.lt_trichotomy a b with q | q | q
  · have := FK_mono h (show a + 1 ≤ b by omega); omega
  · exact q
  · have := FK_mono h (show b + 1 ≤ a by omega); omega
/-- months(): from day o of month k on by n months, with ending e -/
def MOf (ic md : Nat → Int32) (k : Nat) (o n e : Int) : Int :=
  if (k : Int) + n < 0 ∨ 1200 ≤ (k : Int) + n then -1 else
  if o < LKf ic md ((k : Int) + n).toNat then FKf ic md ((k : Int) + n).toNat + o else
  if e = 0 then FKf ic md ((k : Int) + n).toNat + LKf ic md ((k : Int) + n).toNat - 1 else
  if e = 1 ∧ FKf ic md ((k : Int) + n).toNat + o < YSf md (ic 4).toInt (ic 5).toInt 100 then FKf ic md ((k : Int) + n).toNat + o else -1
/-- the first day of a weekday in month k, from its first day on; nth() -/
def W0f (ic md : Nat → Int32) (k : Nat) (wd : Int) : Int := (wd - (FKf ic md k + (ic 8).toInt) % (ic 7).toInt) % (ic 7).toInt
def WOf (ic md : Nat → Int32) (k : Nat) (wd n : Int) : Int :=
  if n < 4 then W0f ic md k wd + n * (ic 7).toInt else if W0f ic md k wd < LKf ic md k then W0f ic md k wd + (LKf ic md k - 1 - W0f ic md k wd) / (ic 7).toInt * (ic 7).toInt else W0f ic md k wd
def NWf (ic md : Nat → Int32) (k : Nat) (wd n : Int) : Int := if WOf ic md k wd n < LKf ic md k then FKf ic md k + WOf ic md k wd n else -1
theorem mul_b {a b m k : Int} (h1 : 0 ≤ a) (h2 : a ≤ m) (h3 : 0 ≤ b) (h4 : b ≤ k) (h5 : 0 ≤ m) : 0 ≤ a * b ∧ a * b ≤ m * k := ⟨Int.mul_nonneg h1 h3, Int.mul_le_mul h2 h4 h3 h5⟩
theorem div_b {a b : Int} (h1 : 0 ≤ a) (h2 : 0 < b) : 0 ≤ a / b * b ∧ a / b * b ≤ a ∧ a < a / b * b + b := by
  have q1 := Int.ediv_nonneg h1 (show (0 : Int) ≤ b by omega)
  have q2 := Int.mul_ediv_add_emod a b
  have q3 := Int.emod_nonneg a (show b ≠ 0 by omega)
  have q4 := Int.emod_lt_of_pos a h2
  have q5 : a / b * b = b * (a / b) := Int.mul_comm _ _
  have q6 := Int.mul_nonneg q1 (show (0 : Int) ≤ b by omega)
  omega
theorem mod_b {a b : Int} (h2 : 0 < b) : 0 ≤ a % b ∧ a % b < b := ⟨Int.emod_nonneg a (show b ≠ 0 by omega), Int.emod_lt_of_pos a h2⟩
