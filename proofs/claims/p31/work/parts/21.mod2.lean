def MR1 (G : Gl) (ad : Nat → Nat) (E E' : Nat → va_E) (im ic md : Nat → Int32) : Prop := ∃ im' : Nat → Int32, (∀ k, k ≠ 7 → im' k = im k) ∧ im' 7 = 1 ∧ MCal G ad E' im' ic md ∧ ∀ j, j ≠ 68 → j ≠ 70 → E' j = E j
theorem MR1.refl {G : Gl} {ad : Nat → Nat} {E : Nat → va_E} {im ic md : Nat → Int32} (h7 : im 7 = 1) (h : MCal G ad E im ic md) : MR1 G ad E E im ic md := ⟨im, fun _ _ => rfl, h7, h, fun _ _ _ => rfl⟩
theorem MR1.trans {G : Gl} {ad : Nat → Nat} {E E1 E2 : Nat → va_E} {im im1 ic md : Nat → Int32} (h1 : ∀ k, k ≠ 7 → im1 k = im k) (h2 : ∀ j, j ≠ 68 → j ≠ 70 → E1 j = E j) (h : MR1 G ad E1 E2 im1 ic md) : MR1 G ad E E2 im ic md := by
  obtain ⟨im', a, a7, b, c⟩ := h
  exact ⟨im', fun k hk => (a k hk).trans (h1 k hk), a7, b, fun j p q => (c j p q).trans (h2 j p q)⟩
theorem emod_one {a b m : Int} (hm : 0 < m) (h : a % m = b % m) (h1 : a ≤ b) (h2 : b < a + m) : a = b := by
  have e : (b - a) % m = 0 := Int.emod_eq_emod_iff_emod_sub_eq_zero.mp h.symm
  rw [Int.emod_eq_of_lt (by omega) (by omega)] at e
  omega
theorem ediv_one {a q m : Int} (hm : 0 < m) (h1 : q * m ≤ a) (h2 : a < q * m + m) : a / m = q := by
  refine ((Int.ediv_emod_unique (a := a) (r := a - q * m) (q := q) hm).mpr ⟨?_, by omega, by omega⟩).1
  rw [Int.mul_comm m q]
  omega
/-- the next day of the weekday: from the first on, step by step -/
theorem W0_hit {ic md : Nat → Int32} {k : Nat} {wd : Int} (h7 : 0 < (ic 7).toInt) (h1 : 0 ≤ wd) (h2 : wd < (ic 7).toInt) : (FKf ic md k + W0f ic md k wd + (ic 8).toInt) % (ic 7).toInt = wd := by
  unfold W0f
  rw [show FKf ic md k + (wd - (FKf ic md k + (ic 8).toInt) % (ic 7).toInt) % (ic 7).toInt + (ic 8).toInt = (wd - (FKf ic md k + (ic 8).toInt) % (ic 7).toInt) % (ic 7).toInt + (FKf ic md k + (ic 8).toInt) by omega]
  rw [Int.emod_add_emod]
  have e : (wd + (FKf ic md k + (ic 8).toInt) - (FKf ic md k + (ic 8).toInt) % (ic 7).toInt) = wd + (ic 7).toInt * ((FKf ic md k + (ic 8).toInt) / (ic 7).toInt) := by
    have := Int.mul_ediv_add_emod (FKf ic md k + (ic 8).toInt) (ic 7).toInt
    omega
  rw [show wd - (FKf ic md k + (ic 8).toInt) % (ic 7).toInt + (FKf ic md k + (ic 8).toInt) = wd + (FKf ic md k + (ic 8).toInt) - (FKf ic md k + (ic 8).toInt) % (ic 7).toInt by omega] 
  rw [e, Int.add_mul_emod_self_left]
  exact Int.emod_eq_of_lt h1 h2
def NOf (ic md : Nat → Int32) (k : Nat) (wd n : Int) (c : Nat) (p found : Int) : Prop :=
  p = W0f ic md k wd + (c : Int) * (ic 7).toInt ∧ (FKf ic md k + p + (ic 8).toInt) % (ic 7).toInt = wd ∧
  (n < 4 → ((c : Int) ≤ n → found = -1) ∧ (n < (c : Int) → found = FKf ic md k + W0f ic md k wd + n * (ic 7).toInt)) ∧ (¬ n < 4 → (c = 0 → found = -1) ∧ (0 < c → found = FKf ic md k + p - (ic 7).toInt))
theorem NO_0 {ic md : Nat → Int32} {k : Nat} {wd n : Int} (h7 : 0 < (ic 7).toInt) (h1 : 0 ≤ wd) (h2 : wd < (ic 7).toInt) (hn : 0 ≤ n) : NOf ic md k wd n 0 (W0f ic md k wd) (-1) := by
  refine ⟨by simp, W0_hit h7 h1 h2, fun _ => ⟨fun _ => rfl, fun h => by omega⟩, fun _ => ⟨fun _ => rfl, fun h => by omega⟩⟩
theorem NO_s {ic md : Nat → Int32} {k : Nat} {wd n p f f2 : Int} {c : Nat} (h : NOf ic md k wd n c p f) (hf : f2 = if ¬ n < 4 ∨ (c : Int) = n then FKf ic md k + p else f) : NOf ic md k wd n (c + 1) (p + (ic 7).toInt) f2 := by
  obtain ⟨e, g, a, b⟩ := h
  have e2 : ((c + 1 : Nat) : Int) * (ic 7).toInt = (c : Int) * (ic 7).toInt + (ic 7).toInt := by rw [Int.natCast_add, Int.add_mul]; simp
  refine ⟨by rw [e2]; omega, ?_, fun h4 => ?_, fun h4 => ?_⟩
  · rw [show FKf ic md k + (p + (ic 7).toInt) + (ic 8).toInt = (FKf ic md k + p + (ic 8).toInt) + (ic 7).toInt by omega, Int.add_emod_right]
    exact g
  · obtain ⟨a1, a2⟩ := a h4
    by_cases q : (c : Int) = n
    · rw [if_pos (Or.inr q)] at hf
      refine ⟨fun h => by omega, fun _ => ?_⟩
      rw [hf, e, ← q]
      omega
    · rw [if_neg (by omega)] at hf
      refine ⟨fun h => by rw [hf]; exact a1 (by omega), fun h => by rw [hf]; exact a2 (by omega)⟩
  · rw [if_pos (Or.inl h4)] at hf
    exact ⟨fun h => by omega, fun _ => by omega⟩
theorem NO_end {ic md : Nat → Int32} {k : Nat} {wd n p f : Int} {c : Nat} (h7 : 0 < (ic 7).toInt) (hn : 0 ≤ n) (h : NOf ic md k wd n c p f) (h1 : p - (ic 7).toInt < LKf ic md k) (h2 : LKf ic md k ≤ p) : f = NWf ic md k wd n := by
  obtain ⟨e, g, a, b⟩ := h
  have w0 := mod_b (a := wd - (FKf ic md k + (ic 8).toInt) % (ic 7).toInt) h7
  unfold NWf WOf
  change 0 ≤ W0f ic md k wd ∧ W0f ic md k wd < _ at w0
  by_cases h4 : n < 4
  · obtain ⟨a1, a2⟩ := a h4
    rw [if_pos h4]
    by_cases q : (c : Int) ≤ n
    · have := Int.mul_le_mul_of_nonneg_right q (show 0 ≤ (ic 7).toInt by omega)
      rw [if_neg (by omega), a1 q]
    · have q2 := Int.mul_le_mul_of_nonneg_right (show n + 1 ≤ (c : Int) by omega) (show 0 ≤ (ic 7).toInt by omega)
      rw [Int.add_mul] at q2
      rw [if_pos (by omega), a2 (by omega)]
      omega
  · obtain ⟨b1, b2⟩ := b h4
    rw [if_neg h4]
    by_cases q : c = 0
    · subst q
      have e3 : p = W0f ic md k wd := by rw [e]; simp
      rw [if_neg (show ¬ W0f ic md k wd < LKf ic md k by omega), if_neg (by omega), b1 rfl]
    · have q2 := Int.mul_le_mul_of_nonneg_right (show 1 ≤ (c : Int) by omega) (show 0 ≤ (ic 7).toInt by omega)
      have e4 : ((c : Int) - 1) * (ic 7).toInt = (c : Int) * (ic 7).toInt - (ic 7).toInt := by rw [Int.sub_mul]; omega
      have e5 : (LKf ic md k - 1 - W0f ic md k wd) / (ic 7).toInt = (c : Int) - 1 := ediv_one h7 (by rw [e4]; omega) (by rw [e4]; omega)
      rw [if_pos (show W0f ic md k wd < LKf ic md k by omega), e5, e4, if_pos (by omega), b2 (by omega)]
      omega
theorem NW_b {ic md : Nat → Int32} (h : CalP ic md) {k : Nat} (hk : k < 1200) {wd n : Int} (hn : 0 ≤ n) : NWf ic md k wd n = -1 ∨ 0 ≤ NWf ic md k wd n := by
  have h7 := h.2.2.2.2.1
  have w0 := mod_b (a := wd - (FKf ic md k + (ic 8).toInt) % (ic 7).toInt) (b := (ic 7).toInt) (by omega)
  change 0 ≤ W0f ic md k wd ∧ W0f ic md k wd < _ at w0
  have bF := FK_b h (k := k) (by omega)
  have q1 := Int.mul_nonneg hn (show 0 ≤ (ic 7).toInt by omega)
  have hW : 0 ≤ WOf ic md k wd n := by
    unfold WOf
    split
    · omega
    · split
      · have := div_b (a := LKf ic md k - 1 - W0f ic md k wd) (b := (ic 7).toInt) (by omega) (by omega)
        omega
      · omega
  unfold NWf
  split
  · right; omega
  · left; rfl
theorem MO_b {ic md : Nat → Int32} (h : CalP ic md) {k : Nat} {o n e : Int} (ho : 0 ≤ o) : MOf ic md k o n e = -1 ∨ 0 ≤ MOf ic md k o n e := by
  unfold MOf
  split
  · left; rfl
  · have bF := FK_b h (k := ((k : Int) + n).toNat) (by omega)
    have bL := LK_b h ((k : Int) + n).toNat
    split
    · right; omega
    · split
      · right; omega
      · split
        · right; omega
        · left; rfl
