/-! ===== typed worlds: every cell has a shape, every int an interval ===== -/
theorem ti_any (x : Int32) : -2147483648 ≤ x.toInt ∧ x.toInt ≤ 2147483647 := ⟨ti_lo x, by have := ti_hi x; omega⟩
theorem ti_shr1 (x : Int32) : (x >>> ((1 : Int32) &&& 31)).toInt = x.toInt / 2 := by
  show (x >>> ((1 : Int32) &&& 31)).toBitVec.toInt = _
  rw [Int32.toBitVec_shiftRight]
  show (x.toBitVec.sshiftRight _).toInt = _
  rw [BitVec.toInt_sshiftRight]
  show x.toBitVec.toInt >>> 1 = _
  rw [Int.shiftRight_eq_div_pow]
  rfl
theorem mmin_b {x y : Int32} {a b : Int} (hx : x.toInt = a) (hy : y.toInt = b) : (if y < x then y else x).toInt ≤ a ∧ (if y < x then y else x).toInt ≤ b ∧ ((if y < x then y else x).toInt = a ∨ (if y < x then y else x).toInt = b) := by
  by_cases h : y < x
  · rw [if_pos h]
    have := Int32.lt_iff_toInt_lt.mp h
    omega
  · rw [if_neg h]
    have h2 : ¬ y.toInt < x.toInt := fun q => h (Int32.lt_iff_toInt_lt.mpr q)
    omega
theorem mmax_b {x y : Int32} {a b : Int} (hx : x.toInt = a) (hy : y.toInt = b) : a ≤ (if x < y then y else x).toInt ∧ b ≤ (if x < y then y else x).toInt ∧ ((if x < y then y else x).toInt = a ∨ (if x < y then y else x).toInt = b) := by
  by_cases h : x < y
  · rw [if_pos h]
    have := Int32.lt_iff_toInt_lt.mp h
    omega
  · rw [if_neg h]
    have h2 : ¬ x.toInt < y.toInt := fun q => h (Int32.lt_iff_toInt_lt.mpr q)
    omega
abbrev CT : Type := Nat × Nat × List Nat × (Nat → Int × Int)
def anyB : Nat → Int × Int := fun _ => (-2147483648, 2147483647)
def HasTy (G : Gl) (ad : Nat → Nat) (t : CT) (x : va_E) : Prop :=
  (t.1 = 0 → ∃ i : Nat → Int32, x = ob t.2.1 (rfs ad t.2.2.1) i ∧ ∀ k, (t.2.2.2 k).1 ≤ (i k).toInt ∧ (i k).toInt ≤ (t.2.2.2 k).2) ∧
  (t.1 = 1 → ∃ f : Nat → Int32, x = aI G t.2.1 f ∧ ∀ k, (t.2.2.2 0).1 ≤ (f k).toInt ∧ (f k).toInt ≤ (t.2.2.2 0).2) ∧
  (t.1 = 2 → ∃ f : Nat → Int64, x = aJ G t.2.1 f) ∧ (t.1 = 3 → ∃ f : Nat → Int32, x = aZ G t.2.1 f ∧ ∀ k, f k = 0 ∨ f k = 1)
def JJ (G : Gl) (ad : Nat → Nat) (n : Nat) (Ty : Nat → CT) (P : Nat → Prop) (E0 E : Nat → va_E) : Prop := (∀ j, P j → E j = E0 j) ∧ ∀ j, j < n → HasTy G ad (Ty j) (E j)
section JJR
variable {G : Gl} {ad : Nat → Nat} {n : Nat} {Ty : Nat → CT} {P : Nat → Prop} {E0 E E1 : Nat → va_E} {b ci N : Nat} {L : List Nat} {bd : Nat → Int × Int}
theorem JJ.getO (h : JJ G ad n Ty P E0 E) (hb : b < n) (ht : Ty b = (0, ci, L, bd)) : ∃ i : Nat → Int32, E b = ob ci (rfs ad L) i ∧ ∀ k, (bd k).1 ≤ (i k).toInt ∧ (i k).toInt ≤ (bd k).2 := by
  have := (h.2 b hb).1
  rw [ht] at this
  exact this rfl
theorem JJ.getA (h : JJ G ad n Ty P E0 E) (hb : b < n) (ht : Ty b = (1, N, L, bd)) : ∃ f : Nat → Int32, E b = aI G N f ∧ ∀ k, (bd 0).1 ≤ (f k).toInt ∧ (f k).toInt ≤ (bd 0).2 := by
  have := (h.2 b hb).2.1
  rw [ht] at this
  exact this rfl
theorem JJ.getL (h : JJ G ad n Ty P E0 E) (hb : b < n) (ht : Ty b = (2, N, L, bd)) : ∃ f : Nat → Int64, E b = aJ G N f := by
  have := (h.2 b hb).2.2.1
  rw [ht] at this
  exact this rfl
theorem JJ.getB (h : JJ G ad n Ty P E0 E) (hb : b < n) (ht : Ty b = (3, N, L, bd)) : ∃ f : Nat → Int32, E b = aZ G N f ∧ ∀ k, f k = 0 ∨ f k = 1 := by
  have := (h.2 b hb).2.2.2
  rw [ht] at this
  exact this rfl
theorem JJ.at1 (h : JJ G ad n Ty P E0 E) (hP : ¬ P b) (hb : HasTy G ad (Ty b) (E1 b)) (o1 : ∀ j, j ≠ b → E1 j = E j) : JJ G ad n Ty P E0 E1 := by
  refine ⟨fun j hj => (o1 j (fun q => hP (q ▸ hj))).trans (h.1 j hj), fun j hj => ?_⟩
  by_cases q : j = b
  · rw [q]; exact hb
  · rw [o1 j q]; exact h.2 j hj
theorem up_bd {i : Nat → Int32} {k : Nat} {v : Int32} (hi : ∀ k, (bd k).1 ≤ (i k).toInt ∧ (i k).toInt ≤ (bd k).2) (hv : (bd k).1 ≤ v.toInt ∧ v.toInt ≤ (bd k).2) : ∀ q, (bd q).1 ≤ (va_up i k v q).toInt ∧ (va_up i k v q).toInt ≤ (bd q).2 := by
  intro q
  by_cases h : q = k
  · subst h; simpa [va_up] using hv
  · simpa [va_up, h] using hi q
theorem JJ.setO (h : JJ G ad n Ty P E0 E) (ht : Ty b = (0, ci, L, bd)) (hP : ¬ P b) {i : Nat → Int32} {k : Nat} {v : Int32} (hi : ∀ k, (bd k).1 ≤ (i k).toInt ∧ (i k).toInt ≤ (bd k).2) (hv : (bd k).1 ≤ v.toInt ∧ v.toInt ≤ (bd k).2) (h1 : E1 b = ob ci (rfs ad L) (va_up i k v)) (o1 : ∀ j, j ≠ b → E1 j = E j) : JJ G ad n Ty P E0 E1 ∧ ∀ q, (bd q).1 ≤ (va_up i k v q).toInt ∧ (va_up i k v q).toInt ≤ (bd q).2 := by
  have hbd := up_bd hi hv
  refine ⟨h.at1 hP ?_ o1, hbd⟩
  rw [ht]
  exact ⟨fun _ => ⟨_, h1, hbd⟩, fun q => absurd (show (0 : Nat) = 1 from q) (by decide), fun q => absurd (show (0 : Nat) = 2 from q) (by decide), fun q => absurd (show (0 : Nat) = 3 from q) (by decide)⟩
theorem JJ.setA (h : JJ G ad n Ty P E0 E) (ht : Ty b = (1, N, L, bd)) (hP : ¬ P b) {f : Nat → Int32} {k : Nat} {v : Int32} (hi : ∀ k, (bd 0).1 ≤ (f k).toInt ∧ (f k).toInt ≤ (bd 0).2) (hv : (bd 0).1 ≤ v.toInt ∧ v.toInt ≤ (bd 0).2) (h1 : E1 b = aI G N (upd f k v)) (o1 : ∀ j, j ≠ b → E1 j = E j) : JJ G ad n Ty P E0 E1 := by
  refine h.at1 hP ?_ o1
  rw [ht]
  refine ⟨fun q => absurd (show (1 : Nat) = 0 from q) (by decide), fun _ => ⟨_, h1, fun q => ?_⟩, fun q => absurd (show (1 : Nat) = 2 from q) (by decide), fun q => absurd (show (1 : Nat) = 3 from q) (by decide)⟩
  by_cases h : q = k
  · subst h; simpa [upd] using hv
  · simpa [upd, h] using hi q
theorem JJ.setL (h : JJ G ad n Ty P E0 E) (ht : Ty b = (2, N, L, bd)) (hP : ¬ P b) {f : Nat → Int64} (h1 : E1 b = aJ G N f) (o1 : ∀ j, j ≠ b → E1 j = E j) : JJ G ad n Ty P E0 E1 := by
  refine h.at1 hP ?_ o1
  rw [ht]
  exact ⟨fun q => absurd (show (2 : Nat) = 0 from q) (by decide), fun q => absurd (show (2 : Nat) = 1 from q) (by decide), fun _ => ⟨_, h1⟩, fun q => absurd (show (2 : Nat) = 3 from q) (by decide)⟩
theorem JJ.setB (h : JJ G ad n Ty P E0 E) (ht : Ty b = (3, N, L, bd)) (hP : ¬ P b) {f : Nat → Int32} {k : Nat} {v : Int32} (hi : ∀ k, f k = 0 ∨ f k = 1) (hv : v = 0 ∨ v = 1) (h1 : E1 b = aZ G N (upd f k v)) (o1 : ∀ j, j ≠ b → E1 j = E j) : JJ G ad n Ty P E0 E1 := by
  refine h.at1 hP ?_ o1
  rw [ht]
  refine ⟨fun q => absurd (show (3 : Nat) = 0 from q) (by decide), fun q => absurd (show (3 : Nat) = 1 from q) (by decide), fun q => absurd (show (3 : Nat) = 2 from q) (by decide), fun _ => ⟨_, h1, fun q => ?_⟩⟩
  by_cases h : q = k
  · subst h; simpa [upd] using hv
  · simpa [upd, h] using hi q
end JJR
