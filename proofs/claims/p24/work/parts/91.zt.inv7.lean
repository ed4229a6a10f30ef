/-! ===== lines that may stand; all that stands between calls ===== -/
def R9w (G : Gl) (ad : Nat → Nat) (n k : Nat) (ic md : Nat → Int32) (td kn : Int32) (fl gop gx gy rf rto ron rat rbe rtd rm fv : Nat → Int32) (E : Nat → va_E) : Prop := R9z G ad n k ic md td kn fl gop gx gy rf rto ron rat rbe rtd rm fv E ∧ LOK k fl gop gx gy
theorem LOK.clear {k : Nat} {fl gop gx gy : Nat → Int32} (h : LOK k fl gop gx gy) (p : Int32) : LOK k (CLf fl p) gop gx gy := by
  unfold CLf
  split
  · intro q hq j hj
    by_cases c : q = p.toInt.toNat
    · rw [c, upd_same] at hj; exact absurd (show j < 0 from hj) (by omega)
    · rw [upd_ne c] at hj; exact h q hq j hj
  · exact h
theorem okLn_mono {k k' op x y : Int} (hk : k ≤ k') (h : okLn k op x y) : okLn k' op x y := by
  unfold okLn at h ⊢
  rcases h with h | h | h | h | h
  · exact Or.inl h
  · exact Or.inr (Or.inl ⟨h.1, h.2.1, Int.lt_of_lt_of_le h.2.2.1 hk, h.2.2.2⟩)
  · exact Or.inr (Or.inr (Or.inl h))
  · exact Or.inr (Or.inr (Or.inr (Or.inl ⟨h.1, h.2.1, Int.lt_of_lt_of_le h.2.2.1 hk, h.2.2.2⟩)))
  · exact Or.inr (Or.inr (Or.inr (Or.inr h)))
theorem LOK.zone {k : Nat} {fl gop gx gy : Nat → Int32} (h : LOK k fl gop gx gy) (v : Int32) : LOK (ZNk k v) fl gop gx gy := by
  unfold ZNk
  split
  · intro q hq j hj
    exact okLn_mono (by omega) (h q hq j hj)
  · exact h
theorem LOK.line {k : Nat} {fl gop gx gy : Nat → Int32} (h : LOK k fl gop gx gy) (hb : ∀ i, 0 ≤ (fl i).toInt ∧ (fl i).toInt ≤ 10) (p op x y : Int32) : LOK k (LNf k fl p op x y) (LNg k fl gop p op x y op) (LNg k fl gx p op x y x) (LNg k fl gy p op x y y) := by
  unfold LNf LNg
  by_cases c : okLI k p op x y ∧ (fl p.toInt.toNat).toInt < 10
  · rw [if_pos c, if_pos c, if_pos c, if_pos c]
    obtain ⟨⟨c1, c2, c3⟩, c4⟩ := c
    intro q hq j hj
    have hbi := hb p.toInt.toNat
    have hbq := hb q
    by_cases e : q = p.toInt.toNat
    · subst e
      rw [upd_same, ti_add (rfl : (fl p.toInt.toNat).toInt = _) (show (1 : Int32).toInt = 1 by decide) (by omega) (by omega)] at hj
      by_cases f : j = (fl p.toInt.toNat).toInt.toNat
      · rw [f, upd_same, upd_same, upd_same]; exact c3
      · rw [upd_ne (by omega), upd_ne (by omega), upd_ne (by omega)]; exact h _ hq j (by omega)
    · rw [upd_ne e] at hj
      rw [upd_ne (by omega), upd_ne (by omega), upd_ne (by omega)]
      exact h q hq j hj
  · rw [if_neg c, if_neg c, if_neg c, if_neg c]; exact h
theorem C8z.kcl {G : Gl} {ad : Nat → Nat} {n k : Nat} {ic md : Nat → Int32} {td kn : Int32} {fl gop gx gy rf rto ron rat rbe rtd rm fv : Nat → Int32} {E : Nat → va_E} (h8 : C8z G ad k ic md td kn fl gop gx gy rf rto ron rat rbe rtd rm fv E) (h9 : R9z G ad n k ic md td kn fl gop gx gy rf rto ron rat rbe rtd rm fv E) : KCl G ad k ic md kn fl gop gx gy rf rto ron rat rbe rtd rm fv E := by
  obtain ⟨io, hE0, h6, h7⟩ := h8.1.1.2.2.1
  obtain ⟨iz, hE6, hz⟩ := h8.1.z6
  obtain ⟨fz, hE7, hfz⟩ := h8.1.1.1.c7
  obtain ⟨fp, hE8, hfp⟩ := h8.1.1.1.c8
  have hk5 := h8.1.1.1.1
  obtain ⟨i48, e48, -⟩ := h8.1.1.1.2.2.getO (b := 48) (by omega) rfl
  obtain ⟨i49, e49, -⟩ := h8.1.1.1.2.2.getO (b := 49) (by omega) rfl
  obtain ⟨pv, e50, -⟩ := h8.1.1.1.2.2.getA (b := 50) (by omega) rfl
  exact ⟨⟨io, hE0, h7⟩, h8.1.1.2.1, ⟨iz, fz, hE6, hz, hE7, hfz⟩, ⟨fp, hE8, hfp⟩, fun p hp => h8.1.2 p hp, h9.1.bl, ⟨i48, e48⟩, ⟨i49, e49⟩, ⟨pv, e50⟩, h8.2, hk5⟩
