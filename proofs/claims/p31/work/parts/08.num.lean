/-! ===== numbers: Int32 through toInt ===== -/
theorem bm32 {z : Int} (h1 : -2147483648 ≤ z) (h2 : z < 2147483648) : z.bmod (2 ^ 32) = z := Int.bmod_eq_of_le (by omega) (by omega)
theorem ti_lo (x : Int32) : -2147483648 ≤ x.toInt := Int32.le_toInt x
theorem ti_hi (x : Int32) : x.toInt < 2147483648 := Int32.toInt_lt x
theorem ti_add {x y : Int32} {a b : Int} (hx : x.toInt = a) (hy : y.toInt = b) (h1 : -2147483648 ≤ a + b) (h2 : a + b < 2147483648) : (x + y).toInt = a + b := by
  rw [Int32.toInt_add, hx, hy, bm32 h1 h2]
theorem ti_sub {x y : Int32} {a b : Int} (hx : x.toInt = a) (hy : y.toInt = b) (h1 : -2147483648 ≤ a - b) (h2 : a - b < 2147483648) : (x - y).toInt = a - b := by
  rw [Int32.toInt_sub, hx, hy, bm32 h1 h2]
theorem ti_mul {x y : Int32} {a b : Int} (hx : x.toInt = a) (hy : y.toInt = b) (h1 : -2147483648 ≤ a * b) (h2 : a * b < 2147483648) : (x * y).toInt = a * b := by
  rw [Int32.toInt_mul, hx, hy, bm32 h1 h2]
theorem ti_neg {x : Int32} {a : Int} (hx : x.toInt = a) (h1 : -2147483648 < a) : (-x).toInt = -a := by
  have := ti_hi x
  rw [Int32.toInt_neg, hx, bm32 (by omega) (by omega)]
theorem ti_tdiv {x y : Int32} {a b : Int} (hx : x.toInt = a) (hy : y.toInt = b) (hb : 0 < b) : (x / y).toInt = a.tdiv b := by
  have h1 := ti_lo x
  have h2 := ti_hi x
  rw [hx] at h1 h2
  rw [Int32.toInt_div, hx, hy]
  have h3 : -2147483648 ≤ a.tdiv b ∧ a.tdiv b < 2147483648 := by
    by_cases h0 : 0 ≤ a
    · rw [Int.tdiv_eq_ediv_of_nonneg h0]
      have q1 := Int.ediv_le_self b h0
      have q2 := Int.ediv_nonneg h0 (show (0 : Int) ≤ b by omega)
      omega
    · rw [show a = -(-a) by omega, Int.neg_tdiv, Int.tdiv_eq_ediv_of_nonneg (show 0 ≤ -a by omega)]
      have q1 := Int.ediv_le_self b (show 0 ≤ -a by omega)
      have q2 := Int.ediv_nonneg (show 0 ≤ -a by omega) (show (0 : Int) ≤ b by omega)
      omega
  exact bm32 h3.1 h3.2
theorem emod_self {a b : Int} (h0 : 0 ≤ a) (hb : 0 < b) : a % b ≤ a := by
  have h1 := Int.mul_ediv_add_emod a b
  have h2 := Int.mul_nonneg (show 0 ≤ b by omega) (Int.ediv_nonneg h0 (show (0 : Int) ≤ b by omega))
  omega
theorem ti_div {x y : Int32} {a b : Int} (hx : x.toInt = a) (hy : y.toInt = b) (h0 : 0 ≤ a) (hb : 0 < b) : (x / y).toInt = a / b := by
  rw [ti_tdiv hx hy hb, Int.tdiv_eq_ediv_of_nonneg h0]
theorem ti_trem {x y : Int32} {a b : Int} (hx : x.toInt = a) (hy : y.toInt = b) (hb : 0 < b) : (x - x / y * y).toInt = a.tmod b := by
  have h1 := ti_lo x
  have h2 := ti_hi x
  rw [hx] at h1 h2
  have hd := ti_tdiv hx hy hb
  have e : b * a.tdiv b + a.tmod b = a := Int.mul_tdiv_add_tmod a b
  have e2 : a.tdiv b * b = a - a.tmod b := by rw [Int.mul_comm]; omega
  have hm : -2147483648 ≤ a - a.tmod b ∧ a - a.tmod b < 2147483648 := by
    by_cases h0 : 0 ≤ a
    · have q1 := Int.tmod_nonneg b h0
      have q2 : a.tmod b ≤ a := by rw [Int.tmod_eq_emod_of_nonneg h0]; exact emod_self h0 hb
      omega
    · have q0 : a.tmod b = -((-a).tmod b) := by rw [show a = -(-a) by omega, Int.neg_tmod, Int.neg_neg]
      have q1 := Int.tmod_nonneg b (show 0 ≤ -a by omega)
      have q2 : (-a).tmod b ≤ -a := by rw [Int.tmod_eq_emod_of_nonneg (by omega)]; exact emod_self (by omega) hb
      omega
  have hmul := ti_mul hd hy (by rw [e2]; exact hm.1) (by rw [e2]; exact hm.2)
  have hr : -2147483648 ≤ a - a.tdiv b * b ∧ a - a.tdiv b * b < 2147483648 := by
    rw [e2]
    have q := Int.tmod_lt_of_pos a hb
    have q' := Int.lt_tmod_of_pos a hb
    have := ti_hi y
    omega
  rw [ti_sub hx hmul hr.1 hr.2, e2]
  omega
theorem ti_rem {x y : Int32} {a b : Int} (hx : x.toInt = a) (hy : y.toInt = b) (h0 : 0 ≤ a) (hb : 0 < b) : (x - x / y * y).toInt = a % b := by
  rw [ti_trem hx hy hb, Int.tmod_eq_emod_of_nonneg h0]
theorem ti_cl {x : Int32} {a : Int} (hx : x.toInt = a) : x.toNatClampNeg = a.toNat := by rw [← hx]; rfl
theorem ti_in {x : Int32} {a : Int} {n : Nat} (hx : x.toInt = a) (h1 : 0 ≤ a) (h2 : a < n) : vp_in x n := vp_in_iff.mpr ⟨by omega, by omega⟩
theorem ti_ext {x y : Int32} (h : x.toInt = y.toInt) : x = y := Int32.toInt_inj.mp h
theorem ti_ne {x y : Int32} {a b : Int} (hx : x.toInt = a) (hy : y.toInt = b) (h : a ≠ b) : ¬ x = y := fun q => h (by rw [← hx, ← hy, q])
theorem ti_bit {x y : Int32} (hy : 0 < y.toInt) : (x ^^^ y).toInt < 0 ↔ x.toInt < 0 := by
  have e : ∀ z : Int32, z.toInt < 0 ↔ z.toBitVec.msb = true := fun z => by
    show z.toBitVec.toInt < 0 ↔ _
    exact BitVec.toInt_neg_iff.trans BitVec.msb_eq_true_iff_two_mul_ge.symm
  have hm : y.toBitVec.msb = false := by
    cases h : y.toBitVec.msb with
    | false => rfl
    | true => have := (e y).mpr h; omega
  rw [e, e, Int32.toBitVec_xor, BitVec.msb_xor, hm, Bool.xor_false]
theorem fmod1 {a b : Int} (hb : 0 < b) (h : 0 ≤ a.tmod b) : a.tmod b = a % b := by
  by_cases h0 : 0 ≤ a
  · exact Int.tmod_eq_emod_of_nonneg h0
  · have q0 : a.tmod b = -((-a).tmod b) := by rw [show a = -(-a) by omega, Int.neg_tmod, Int.neg_neg]
    have q1 := Int.tmod_nonneg b (show 0 ≤ -a by omega)
    have q2 : a.tmod b = 0 := by omega
    have q3 : b * a.tdiv b + a.tmod b = a := Int.mul_tdiv_add_tmod a b
    rw [q2]
    have q4 : a = b * a.tdiv b := by omega
    exact (Int.emod_eq_zero_of_dvd ⟨a.tdiv b, q4⟩).symm
theorem fmod2 {a b : Int} (hb : 0 < b) (h : a.tmod b < 0) : a.tmod b + b = a % b := by
  have q3 : b * a.tdiv b + a.tmod b = a := Int.mul_tdiv_add_tmod a b
  have q4 := Int.lt_tmod_of_pos a hb
  have q5 : (a.tmod b + b + b * (a.tdiv b - 1)) = a := by rw [Int.mul_sub]; omega
  rw [← q5, Int.add_mul_emod_self_left]
  rw [q5]
  exact (Int.emod_eq_of_lt (by omega) (by omega)).symm
theorem tmod_np {a b : Int} (h : a ≤ 0) : a.tmod b ≤ 0 := by
  have q0 : a.tmod b = -((-a).tmod b) := by rw [show a = -(-a) by omega, Int.neg_tmod, Int.neg_neg]
  have q1 := Int.tmod_nonneg b (show 0 ≤ -a by omega)
  omega
