/-! ===== longs through toInt ===== -/
theorem bm64 {z : Int} (h1 : -9223372036854775808 ≤ z) (h2 : z < 9223372036854775808) : z.bmod (2 ^ 64) = z := Int.bmod_eq_of_le (by omega) (by omega)
theorem tl_of {x : Int32} {a : Int} (hx : x.toInt = a) : x.toInt64.toInt = a := by rw [Int32.toInt_toInt64, hx]
theorem tl_add {x y : Int64} {a b : Int} (hx : x.toInt = a) (hy : y.toInt = b) (h1 : -9223372036854775808 ≤ a + b) (h2 : a + b < 9223372036854775808) : (x + y).toInt = a + b := by
  rw [Int64.toInt_add, hx, hy, bm64 h1 h2]
theorem tl_sub {x y : Int64} {a b : Int} (hx : x.toInt = a) (hy : y.toInt = b) (h1 : -9223372036854775808 ≤ a - b) (h2 : a - b < 9223372036854775808) : (x - y).toInt = a - b := by
  rw [Int64.toInt_sub, hx, hy, bm64 h1 h2]
theorem tl_mul {x y : Int64} {a b : Int} (hx : x.toInt = a) (hy : y.toInt = b) (h1 : -9223372036854775808 ≤ a * b) (h2 : a * b < 9223372036854775808) : (x * y).toInt = a * b := by
  rw [Int64.toInt_mul, hx, hy, bm64 h1 h2]
theorem tl_div {x y : Int64} {a b : Int} (hx : x.toInt = a) (hy : y.toInt = b) (h0 : 0 ≤ a) (hb : 0 < b) : (x / y).toInt = a / b := by
  have h2 := Int64.toInt_lt x
  rw [hx] at h2
  rw [Int64.toInt_div, hx, hy, Int.tdiv_eq_ediv_of_nonneg h0]
  have q1 := Int.ediv_le_self b h0
  have q2 := Int.ediv_nonneg h0 (show (0 : Int) ≤ b by omega)
  exact bm64 (by omega) (by omega)
theorem tl_i {x : Int64} {a : Int} (hx : x.toInt = a) (h1 : -2147483648 ≤ a) (h2 : a < 2147483648) : x.toInt32.toInt = a := by
  rw [Int64.toInt_toInt32, hx, bm32 h1 h2]
theorem tl_cmp {x y : Int64} {a b : Int} (hx : x.toInt = a) (hy : y.toInt = b) : (b < a ∧ (lg_cmp x y).toInt = 1) ∨ (a = b ∧ (lg_cmp x y).toInt = 0) ∨ (a < b ∧ (lg_cmp x y).toInt = -1) := by
  unfold lg_cmp
  by_cases c : x > y
  · rw [if_pos c]
    have q := Int64.lt_iff_toInt_lt.mp c
    left
    exact ⟨by omega, by decide⟩
  · rw [if_neg c]
    have q : ¬ y.toInt < x.toInt := fun z => c (Int64.lt_iff_toInt_lt.mpr z)
    by_cases d : x = y
    · rw [if_pos d]
      right; left
      exact ⟨by rw [← hx, ← hy, d], by decide⟩
    · rw [if_neg d]
      have q2 : ¬ x.toInt = y.toInt := fun z => d (Int64.toInt_inj.mp z)
      right; right
      exact ⟨by omega, by decide⟩
