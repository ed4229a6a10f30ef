/-! ===== the reference at work: what stays ===== -/
def CSt (G : Gl) (ad : Nat → Nat) (E E1 : Nat → va_E) (im ic md : Nat → Int32) (TT : Nat → TST) (vl : Nat → Int32) : Prop := ∃ im1 : Nat → Int32, (∀ q, q ≠ 7 → im1 q = im q) ∧ MCal G ad E1 im1 ic md ∧ ZMs G E1 5 TT ∧ E1 93 = aI G 8 vl ∧ ∀ j, j ≠ 68 → j ≠ 70 → (j < 79 ∨ 84 < j) → j ≠ 93 → E1 j = E j
def DSt (G : Gl) (ad : Nat → Nat) (E E1 : Nat → va_E) (im ic md : Nat → Int32) (TT : Nat → TST) (g : Int) (kd vl : Nat → Int32) : Prop := ∃ im1 : Nat → Int32, (∀ q, q ≠ 7 → q ≠ 35 → im1 q = im q) ∧ (im1 35).toInt = g ∧ MCal G ad E1 im1 ic md ∧ ZMs G E1 5 TT ∧ E1 92 = aI G 8 kd ∧ E1 93 = aI G 8 vl ∧ ∀ j, j ≠ 68 → j ≠ 70 → (j < 79 ∨ 84 < j) → j ≠ 92 → j ≠ 93 → E1 j = E j
theorem simK_K {h : Int} {K K' : Nat → Int32} (hs : simK h K K') {j : Nat} (hj : (j : Int) < h) : (K j).toInt = (K' j).toInt := by rw [hs j hj]
theorem MCal.same {G : Gl} {ad : Nat → Nat} {E E1 : Nat → va_E} {im im1 ic md : Nat → Int32} (h : MCal G ad E im ic md) (hq : ∀ q, q ≤ 8 → im1 q = im q) (e68 : E1 68 = ob 9 (rX9 ad) im1) (e69 : E1 69 = E 69) (e70 : E1 70 = E 70) : MCal G ad E1 im1 ic md := by
  obtain ⟨a1, a2, a3, a4, a5, mf, a6, a7, a8⟩ := h
  refine ⟨?_, a2, e68, e69.trans a4, by rw [hq 7 (by decide)]; exact a5, mf, e70.trans a6, a7, fun q => a8 (by rw [← hq 7 (by decide)]; exact q)⟩
  rw [← a1]
  funext k
  unfold icm
  by_cases c : k ≤ 8
  · rw [if_pos c, if_pos c, hq (k - 3) (by omega)]
  · rw [if_neg c, if_neg c]
