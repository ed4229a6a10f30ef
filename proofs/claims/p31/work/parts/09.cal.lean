/-! ===== the calendar as numbers ===== -/
def MSf (md : Nat → Int32) : Nat → Int
  | 0 => 0
  | k + 1 => MSf md k + (md k).toInt
def LPf (a b : Int) (y : Nat) : Int := if (y : Int) % a = 0 ∧ ¬ (y : Int) % b = 0 then 1 else 0
def YSf (md : Nat → Int32) (a b : Int) : Nat → Int
  | 0 => 0
  | y + 1 => YSf md a b y + MSf md 12 + LPf a b y
def CalP (ic md : Nat → Int32) : Prop := (∀ j, j < 12 → 1 ≤ (md j).toInt ∧ (md j).toInt ≤ 40) ∧ (2 ≤ (ic 4).toInt ∧ (ic 4).toInt ≤ 50) ∧ (2 ≤ (ic 5).toInt ∧ (ic 5).toInt ≤ 100) ∧ (0 ≤ (ic 6).toInt ∧ (ic 6).toInt < 12) ∧ (2 ≤ (ic 7).toInt ∧ (ic 7).toInt ≤ 10) ∧ (0 ≤ (ic 8).toInt ∧ (ic 8).toInt ≤ 9)
def CalF (ic md ms ld ys : Nat → Int32) : Prop := (∀ j, j < 12 → (ms j).toInt = MSf md j) ∧ (∀ j, j < 100 → (ld j).toInt = LPf (ic 4).toInt (ic 5).toInt j) ∧ (∀ j, j < 101 → (ys j).toInt = YSf md (ic 4).toInt (ic 5).toInt j)
theorem LP_01 (a b : Int) (y : Nat) : LPf a b y = 0 ∨ LPf a b y = 1 := by unfold LPf; split <;> simp
theorem MS_b {md : Nat → Int32} (h : ∀ j, j < 12 → 1 ≤ (md j).toInt ∧ (md j).toInt ≤ 40) : ∀ k : Nat, k ≤ 12 → (k : Int) ≤ MSf md k ∧ MSf md k ≤ 40 * k := by
  intro k
  induction k with
  | zero => intro _; simp [MSf]
  | succ k ih =>
    intro hk
    have h1 := ih (by omega)
    have h2 := h k (by omega)
    simp only [MSf]
    omega
theorem YS_b {md : Nat → Int32} {a b : Int} (h : ∀ j, j < 12 → 1 ≤ (md j).toInt ∧ (md j).toInt ≤ 40) : ∀ y : Nat, 12 * (y : Int) ≤ YSf md a b y ∧ YSf md a b y ≤ 481 * y := by
  intro y
  induction y with
  | zero => simp [YSf]
  | succ y ih =>
    have h1 := MS_b h 12 (by omega)
    have h2 := LP_01 a b y
    simp only [YSf]
    omega
theorem YS_m {md : Nat → Int32} {a b : Int} (h : ∀ j, j < 12 → 1 ≤ (md j).toInt ∧ (md j).toInt ≤ 40) (y : Nat) : ∀ k : Nat, YSf md a b y + 12 * (k : Int) ≤ YSf md a b (y + k) := by
  intro k
  induction k with
  | zero => simp
  | succ k ih =>
    have h1 := MS_b h 12 (by omega)
    have h2 := LP_01 a b (y + k)
    rw [← Nat.add_assoc]
    simp only [YSf]
    omega
theorem YS_mono {md : Nat → Int32} {a b : Int} (h : ∀ j, j < 12 → 1 ≤ (md j).toInt ∧ (md j).toInt ≤ 40) {y z : Nat} (hyz : y < z) : YSf md a b y + 12 ≤ YSf md a b z := by
  have := YS_m (a := a) (b := b) h y (z - y)
  rw [show y + (z - y) = z by omega] at this
  omega
def FDf (ic md : Nat → Int32) (y m : Nat) : Int := YSf md (ic 4).toInt (ic 5).toInt y + MSf md m + (if (ic 6).toInt < (m : Int) then LPf (ic 4).toInt (ic 5).toInt y else 0)
def DIf (ic md : Nat → Int32) (y m : Nat) : Int := (md m).toInt + (if (m : Int) = (ic 6).toInt then LPf (ic 4).toInt (ic 5).toInt y else 0)
theorem FD_b {ic md : Nat → Int32} (h : CalP ic md) {y m : Nat} (hy : y ≤ 100) (hm : m ≤ 12) : 0 ≤ FDf ic md y m ∧ FDf ic md y m ≤ 50000 := by
  have h1 := YS_b (a := (ic 4).toInt) (b := (ic 5).toInt) h.1 y
  have h2 := MS_b h.1 m hm
  have h3 := LP_01 (ic 4).toInt (ic 5).toInt y
  unfold FDf
  split <;> omega
theorem DI_b {ic md : Nat → Int32} (h : CalP ic md) {y m : Nat} (hm : m < 12) : 1 ≤ DIf ic md y m ∧ DIf ic md y m ≤ 41 := by
  have h1 := h.1 m hm
  have h3 := LP_01 (ic 4).toInt (ic 5).toInt y
  unfold DIf
  split <;> omega
theorem FD_next {ic md : Nat → Int32} {y m : Nat} : FDf ic md y (m + 1) = FDf ic md y m + DIf ic md y m := by
  unfold FDf DIf
  have h : MSf md (m + 1) = MSf md m + (md m).toInt := rfl
  rw [h]
  by_cases h1 : (ic 6).toInt < (m : Int)
  · rw [if_pos h1, if_pos (by omega), if_neg (by omega)]; omega
  · by_cases h2 : (m : Int) = (ic 6).toInt
    · rw [if_neg h1, if_pos (by omega), if_pos h2]; omega
    · rw [if_neg h1, if_neg (by omega), if_neg h2]; omega
theorem FD_year {ic md : Nat → Int32} (h : CalP ic md) {y : Nat} : FDf ic md y 12 = FDf ic md (y + 1) 0 := by
  unfold FDf
  have h1 := h.2.2.2.1
  have e : YSf md (ic 4).toInt (ic 5).toInt (y + 1) = YSf md (ic 4).toInt (ic 5).toInt y + MSf md 12 + LPf (ic 4).toInt (ic 5).toInt y := rfl
  have e0 : MSf md 0 = 0 := rfl
  rw [if_pos (by omega), if_neg (by omega), e, e0]
  omega
theorem FD_0 {ic md : Nat → Int32} (h : CalP ic md) {y : Nat} : FDf ic md y 0 = YSf md (ic 4).toInt (ic 5).toInt y := by
  unfold FDf
  have h1 := h.2.2.2.1
  have e0 : MSf md 0 = 0 := rfl
  rw [if_neg (by omega), e0]
  omega
theorem FD_step {ic md : Nat → Int32} (h : CalP ic md) {y m : Nat} : ∀ k : Nat, m + k ≤ 12 → FDf ic md y m + (k : Int) ≤ FDf ic md y (m + k) := by
  intro k
  induction k with
  | zero => intro _; simp
  | succ k ih =>
    intro hk
    have h1 := ih (by omega)
    have h2 := DI_b (y := y) h (show m + k < 12 by omega)
    rw [← Nat.add_assoc, FD_next]
    omega
