/-! ===== the first odd moment at which a law is broken ===== -/
def FBp (P : Int → Prop) (n : Nat) (f : Nat → Int) (no r : Int) : Prop := ((∀ i, i < n → P (f i)) ∧ r = no) ∨ ∃ i, i < n ∧ (∀ j, j < i → P (f j)) ∧ ¬ P (f i) ∧ r = f i
theorem FB_one {S P : Int → Prop} {n n' : Nat} {f f' : Nat → Int} {no r s : Int} (h : isEn S n f) (g : isEn S n' f') (h1 : FBp P n f no r) (h2 : FBp P n' f' no s) : r = s := by
  have e := en_len h g
  subst e
  have ag : ∀ i, i < n → f i = f' i := fun i hi => en_agree h g (i + 1) i (by omega) hi hi
  rcases h1 with ⟨a, b⟩ | ⟨i, hi, ha, hn, hr⟩
  · rcases h2 with ⟨c, d⟩ | ⟨j, hj, hc, hm, hs⟩
    · rw [b, d]
    · exact absurd (show P (f' j) by rw [← ag j hj]; exact a j hj) hm
  · rcases h2 with ⟨c, d⟩ | ⟨j, hj, hc, hm, hs⟩
    · exact absurd (show P (f i) by rw [ag i hi]; exact c i hi) hn
    · rcases Nat.lt_trichotomy i j with q | q | q
      · exact absurd (show P (f i) by rw [ag i hi]; exact hc i q) hn
      · subst q; rw [hr, hs, ag i hi]
      · exact absurd (show P (f' j) by rw [← ag j hj]; exact ha j q) hm
theorem FB_cg {P Q : Int → Prop} {n : Nat} {f : Nat → Int} {no r : Int} (h : FBp P n f no r) (hq : ∀ m, P m ↔ Q m) : FBp Q n f no r := by
  rcases h with ⟨a, b⟩ | ⟨i, hi, ha, hn, hr⟩
  · exact Or.inl ⟨fun i hi => (hq _).mp (a i hi), b⟩
  · exact Or.inr ⟨i, hi, fun j hj => (hq _).mp (ha j hj), fun q => hn ((hq _).mpr q), hr⟩
def okLE (k : Nat) (p law v a n most : Int) : Prop := (0 ≤ p ∧ p < 6) ∧ okLW (k : Int) law v ∧ okRow a n most
def LEp (k : Nat) (ic md : Nat → Int32) (TT : Nat → TST) (Y : Int) (fl gop gx gy : Nat → Int32) (p law v a n r : Int) : Prop := (¬ okLE k p law v a n 2000000 ∧ r = -1) ∨ (okLE k p law v a n 2000000 ∧ ¬ MIS (fP gop p.toNat) (fl p.toNat).toInt.toNat = -1 ∧ r = -4) ∨ (okLE k p law v a n 2000000 ∧ MIS (fP gop p.toNat) (fl p.toNat).toInt.toNat = -1 ∧ ∃ (n0 : Nat) (f : Nat → Int), isEn (isOd k TT Y a (a + n)) n0 f ∧ FBp (KPt ic md TT (fP gop p.toNat) (fP gx p.toNat) (fP gy p.toNat) (fl p.toNat).toInt.toNat law v) n0 f (-6) r)
theorem LEp_one {k : Nat} {ic md : Nat → Int32} {TT : Nat → TST} {Y : Int} {fl gop gx gy : Nat → Int32} {p law v a n r s : Int} (h1 : LEp k ic md TT Y fl gop gx gy p law v a n r) (h2 : LEp k ic md TT Y fl gop gx gy p law v a n s) : r = s := by
  rcases h1 with ⟨a1, b1⟩ | ⟨a1, b1, c1⟩ | ⟨a1, b1, n1, f1, e1, g1⟩
  · rcases h2 with ⟨a2, b2⟩ | ⟨a2, b2, c2⟩ | ⟨a2, b2, n2, f2, e2, g2⟩
    · rw [b1, b2]
    · exact absurd a2 a1
    · exact absurd a2 a1
  · rcases h2 with ⟨a2, b2⟩ | ⟨a2, b2, c2⟩ | ⟨a2, b2, n2, f2, e2, g2⟩
    · exact absurd a1 a2
    · rw [c1, c2]
    · exact absurd b2 b1
  · rcases h2 with ⟨a2, b2⟩ | ⟨a2, b2, c2⟩ | ⟨a2, b2, n2, f2, e2, g2⟩
    · exact absurd a1 a2
    · exact absurd b1 b2
    · exact FB_one e1 e2 g1 g2
