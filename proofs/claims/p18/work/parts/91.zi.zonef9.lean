theorem FQ.refl {G : Gl} {ad : Nat → Nat} {E : Nat → va_E} {im ic md : Nat → Int32} {k : Nat} {TT : Nat → TST} (hW : MCal G ad E im ic md) (hS : ZMs G E k TT) : FQ G ad E E im ic md k TT := ⟨im, fun _ _ => rfl, hW, hS, fun _ _ _ _ => rfl⟩
theorem FQ.mr {G : Gl} {ad : Nat → Nat} {E E1 : Nat → va_E} {im ic md : Nat → Int32} {k : Nat} {TT : Nat → TST} (hS : ZMs G E k TT) (h : MR G ad E E1 im ic md) : FQ G ad E E1 im ic md k TT := by
  obtain ⟨im1, a1, a2, a3⟩ := h
  exact ⟨im1, a1, a2, hS.go (fun j _ _ => a3 j (by omega) (by omega)), fun j h1 h2 _ => a3 j h1 h2⟩
theorem FQ.trans {G : Gl} {ad : Nat → Nat} {E E1 E2 : Nat → va_E} {im im1 ic md : Nat → Int32} {k : Nat} {TT : Nat → TST} (hi : ∀ q, q ≠ 7 → im1 q = im q) (o : ∀ j, j ≠ 68 → j ≠ 70 → (j < 79 ∨ 84 < j) → E1 j = E j) (h : FQ G ad E1 E2 im1 ic md k TT) : FQ G ad E E2 im ic md k TT := by
  obtain ⟨im2, a1, a2, a3, a4⟩ := h
  exact ⟨im2, fun q hq => (a1 q hq).trans (hi q hq), a2, a3, fun j h1 h2 h3 => (a4 j h1 h2 h3).trans (o j h1 h2 h3)⟩
