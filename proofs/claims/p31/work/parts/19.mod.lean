/-! ===== the reference's calendar ===== -/
abbrev rX9 (ad : Nat → Nat) : Nat → Option Nat := rfs ad [69, 0, 0, 0, 0, 0, 70, 0, 71, 72, 73, 74, 75, 76, 77, 78, 0, 0, 0, 79, 80, 81, 82, 83, 84, 85, 86, 87, 88, 89, 90, 91, 0, 92, 93, 0, 94, 95, 96, 0, 97, 0]
def icm (im : Nat → Int32) : Nat → Int32 := fun k => if k ≤ 8 then im (k - 3) else 0
theorem icm_of {im im' : Nat → Int32} (h : ∀ k, k ≠ 7 → im' k = im k) : icm im' = icm im := by
  funext k
  unfold icm
  by_cases h1 : k ≤ 8
  · rw [if_pos h1, if_pos h1, h (k - 3) (by omega)]
  · rw [if_neg h1, if_neg h1]
def MCal (G : Gl) (ad : Nat → Nat) (E : Nat → va_E) (im ic md : Nat → Int32) : Prop := icm im = ic ∧ CalP ic md ∧ E 68 = ob 9 (rX9 ad) im ∧ E 69 = aI G 12 md ∧ (im 7 = 0 ∨ im 7 = 1) ∧ ∃ mf : Nat → Int32, E 70 = aI G 1201 mf ∧ (mf 0).toInt = 0 ∧ (im 7 = 1 → ∀ k, k < 1201 → (mf k).toInt = FKf ic md k)
def MR (G : Gl) (ad : Nat → Nat) (E E' : Nat → va_E) (im ic md : Nat → Int32) : Prop := ∃ im' : Nat → Int32, (∀ k, k ≠ 7 → im' k = im k) ∧ MCal G ad E' im' ic md ∧ ∀ j, j ≠ 68 → j ≠ 70 → E' j = E j
theorem MR.refl {G : Gl} {ad : Nat → Nat} {E : Nat → va_E} {im ic md : Nat → Int32} (h : MCal G ad E im ic md) : MR G ad E E im ic md := ⟨im, fun _ _ => rfl, h, fun _ _ _ => rfl⟩
theorem MR.trans {G : Gl} {ad : Nat → Nat} {E E1 E2 : Nat → va_E} {im im1 ic md : Nat → Int32} (h1 : ∀ k, k ≠ 7 → im1 k = im k) (h2 : ∀ j, j ≠ 68 → j ≠ 70 → E1 j = E j) (h : MR G ad E1 E2 im1 ic md) : MR G ad E E2 im ic md := by
  obtain ⟨im', a, b, c⟩ := h
  exact ⟨im', fun k hk => (a k hk).trans (h1 k hk), b, fun j p q => (c j p q).trans (h2 j p q)⟩
