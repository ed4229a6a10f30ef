def PgW (G : Gl) (ad : Nat → Nat) (b : Nat) (E : Nat → va_E) (sz : Int32) : Prop := ∃ ip po px py tp kd : Nat → Int32, E b = ob 5 (rP ad b) ip ∧ ip 6 = sz ∧ 0 ≤ (ip 5).toInt ∧ (ip 5).toInt ≤ 8 ∧ E (b + 1) = aI G 10 po ∧ E (b + 2) = aI G 10 px ∧ E (b + 3) = aI G 10 py ∧ E (b + 4) = aI G 10 tp ∧ E (b + 5) = aI G 8 kd
def Fr6 (b : Nat) (E E' : Nat → va_E) : Prop := ∀ j, (j < b ∨ b + 6 ≤ j) → E' j = E j
theorem PgW.keep {G : Gl} {ad : Nat → Nat} {b : Nat} {E E' : Nat → va_E} {sz : Int32} (h : PgW G ad b E sz) (hf : ∀ j, b ≤ j → j < b + 6 → E' j = E j) : PgW G ad b E' sz := by
  obtain ⟨ip, po, px, py, tp, kd, h0, hs, a, c, h1, h2, h3, h4, h5⟩ := h
  exact ⟨ip, po, px, py, tp, kd, (hf b (by omega) (by omega)).trans h0, hs, a, c, (hf _ (by omega) (by omega)).trans h1, (hf _ (by omega) (by omega)).trans h2, (hf _ (by omega) (by omega)).trans h3, (hf _ (by omega) (by omega)).trans h4, (hf _ (by omega) (by omega)).trans h5⟩
