/-! ===== what the calls on the calendar answer ===== -/
theorem day_k {ic md : Nat → Int32} (h : CalP ic md) {d : Int} (h0 : 0 ≤ d) : ∀ K : Nat, d < FKf ic md K → ∃ k, k < K ∧ FKf ic md k ≤ d ∧ d < FKf ic md (k + 1) := by
  intro K
  induction K with
  | zero => intro h1; rw [FK_0 h] at h1; omega
  | succ K ih =>
    intro h1
    by_cases h2 : d < FKf ic md K
    · obtain ⟨k, a, b, c⟩ := ih h2
      exact ⟨k, by omega, b, c⟩
    · exact ⟨K, by omega, by omega, h1⟩
theorem FK_y {ic md : Nat → Int32} (h : CalP ic md) (y : Nat) : FKf ic md (12 * y) = YSf md (ic 4).toInt (ic 5).toInt y := by
  have := FK_of (ic := ic) (md := md) (y := y) (m := 0) (by omega)
  rw [Nat.add_zero] at this
  rw [this, FD_0 h]
theorem day_y {ic md : Nat → Int32} (h : CalP ic md) {d : Int} {k y : Nat} (h1 : FKf ic md k ≤ d) (h2 : d < FKf ic md (k + 1)) (h3 : YSf md (ic 4).toInt (ic 5).toInt y ≤ d) (h4 : d < YSf md (ic 4).toInt (ic 5).toInt (y + 1)) : k / 12 = y := by
  rw [← FK_y h] at h3 h4
  have q1 : ¬ k + 1 ≤ 12 * y := fun q => by have := FK_mono h q; omega
  have q2 : ¬ 12 * (y + 1) ≤ k := fun q => by have := FK_mono h q; omega
  omega
def DYf (ic md : Nat → Int32) (y dt : Int) : Int := if 0 ≤ y ∧ y < 100 ∧ 0 ≤ dt ∧ dt / 100 < 12 ∧ dt % 100 < DIf ic md y.toNat (dt / 100).toNat then FDf ic md y.toNat (dt / 100).toNat + dt % 100 else -1
def DTf (ic md : Nat → Int32) (d w : Int) (k : Nat) : Int := if w = 0 then ((k / 12 : Nat) : Int) else if w = 1 then ((k % 12 : Nat) : Int) else if w = 2 then d - FKf ic md k else (d + (ic 8).toInt) % (ic 7).toInt
def okDT (ic md : Nat → Int32) (d w : Int) : Prop := 0 ≤ d ∧ d < YSf md (ic 4).toInt (ic 5).toInt 100 ∧ 0 ≤ w ∧ w ≤ 3
def DTp (ic md : Nat → Int32) (d w r : Int) : Prop := (¬ okDT ic md d w ∧ r = -1) ∨ (okDT ic md d w ∧ ∃ k : Nat, k < 1200 ∧ FKf ic md k ≤ d ∧ d < FKf ic md (k + 1) ∧ r = DTf ic md d w k)
def okMO (ic md : Nat → Int32) (d n e : Int) : Prop := 0 ≤ d ∧ d < YSf md (ic 4).toInt (ic 5).toInt 100 ∧ -9999 ≤ n ∧ n ≤ 9999 ∧ 0 ≤ e ∧ e ≤ 2
def MOp (ic md : Nat → Int32) (d n e r : Int) : Prop := (¬ okMO ic md d n e ∧ r = -1) ∨ (okMO ic md d n e ∧ ∃ k : Nat, k < 1200 ∧ FKf ic md k ≤ d ∧ d < FKf ic md (k + 1) ∧ r = if MOf ic md k (d - FKf ic md k) n e = -1 then -6 else MOf ic md k (d - FKf ic md k) n e)
def NTf (ic md : Nat → Int32) (m w n : Int) : Int := if 0 ≤ m ∧ m / 100 < 100 ∧ m % 100 < 12 ∧ 0 ≤ w ∧ w < (ic 7).toInt ∧ 0 ≤ n ∧ n ≤ 4 then (if NWf ic md (12 * (m / 100).toNat + (m % 100).toNat) w n = -1 then -6 else NWf ic md (12 * (m / 100).toNat + (m % 100).toNat) w n) else -1
theorem DTp_one {ic md : Nat → Int32} (h : CalP ic md) {d w r r2 : Int} (h1 : DTp ic md d w r) (h2 : DTp ic md d w r2) : r = r2 := by
  rcases h1 with ⟨a, e1⟩ | ⟨a, k, b1, b2, b3, e1⟩ <;> rcases h2 with ⟨c, e2⟩ | ⟨c, j, d1, d2, d3, e2⟩
  · rw [e1, e2]
  · exact absurd c a
  · exact absurd a c
  · rw [e1, e2, FK_one h b2 b3 d2 d3]
theorem MOp_one {ic md : Nat → Int32} (h : CalP ic md) {d w n r r2 : Int} (h1 : MOp ic md d w n r) (h2 : MOp ic md d w n r2) : r = r2 := by
  rcases h1 with ⟨a, e1⟩ | ⟨a, k, b1, b2, b3, e1⟩ <;> rcases h2 with ⟨c, e2⟩ | ⟨c, j, d1, d2, d3, e2⟩
  · rw [e1, e2]
  · exact absurd c a
  · exact absurd a c
  · rw [e1, e2, FK_one h b2 b3 d2 d3]
theorem FK_of1 {ic md : Nat → Int32} (h : CalP ic md) {y m : Nat} (hm : m < 12) : FKf ic md (12 * y + m + 1) = FDf ic md y (m + 1) := by
  rw [FK_next h, FK_of hm, LK_of hm, FD_next]
