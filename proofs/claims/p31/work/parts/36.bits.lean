/-! ===== bits of longs ===== -/
def pw (e : Nat) : Int64 := (1 : Int64) <<< ((nI e).toInt64 &&& 63)
def sh (x : Int64) (y : Int32) : Int64 := (x.toUInt64 >>> (y.toInt64.toUInt64 &&& Int64.toUInt64 63)).toInt64
def bcf (x0 : Int64) : Int32 :=
  let x1 := x0 - (sh x0 1 &&& 6148914691236517205)
  let x2 := (x1 &&& 3689348814741910323) + (sh x1 2 &&& 3689348814741910323)
  let x3 := (x2 + sh x2 4) &&& 1085102592571150095
  let x4 := x3 + sh x3 8
  let x5 := x4 + sh x4 16
  let x6 := x5 + sh x5 32
  x6.toInt32 &&& 127
theorem pw_0 : pw 0 = 1 := by decide
theorem pw_lo : ∀ e, e < 64 → pw e &&& -(pw e) = pw e := by decide +kernel
theorem pw_bc : ∀ e, e < 64 → (bcf (pw e - 1)).toInt = (e : Int) := by decide +kernel
theorem pw_x : ∀ e, e < 64 → pw e ^^^ pw e = 0 := by decide +kernel
theorem pw_or0 : ∀ e, e < 64 → (0 : Int64) ||| pw e = pw e := by decide +kernel
theorem pw_or1 : ((1 : Int64) ||| pw 0) = 1 := by decide
theorem pw_cmp : ∀ e, e < 64 → ¬ (lg_cmp (pw e) 0).toInt = 0 := by decide +kernel
theorem p2_lo : ∀ e, e < 64 → 1 ≤ e → ((1 : Int64) ||| pw e) &&& -((1 : Int64) ||| pw e) = 1 := by decide +kernel
theorem p2_x : ∀ e, e < 64 → 1 ≤ e → ((1 : Int64) ||| pw e) ^^^ 1 = pw e := by decide +kernel
theorem p2_cmp : ∀ e, e < 64 → 1 ≤ e → ¬ (lg_cmp ((1 : Int64) ||| pw e) 0).toInt = 0 := by decide +kernel
theorem nI_of_toInt {x : Int32} {e : Nat} (h : x.toInt = (e : Int)) (he : e < 64) : x = nI e := ti_ext (by rw [h, nI_toInt (by omega)])
