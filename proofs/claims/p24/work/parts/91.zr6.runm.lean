/-! ===== laws, and the whole class as it stands between calls ===== -/
def LOK (k : Nat) (fl gop gx gy : Nat → Int32) : Prop := ∀ p, p < 6 → ∀ j, j < (fl p).toInt.toNat → okLn (k : Int) (gop (10 * p + j)).toInt (gx (10 * p + j)).toInt (gy (10 * p + j)).toInt
def lwF (ic md : Nat → Int32) (T : TST) (m : Int) : Int := if okW ic md (m + ofT T m) then m + ofT T m else -1
def okLW (k law v : Int) : Prop := 0 ≤ law ∧ (((law % 10 = 0 ∨ law % 10 = 3) ∧ law / 10 = 0) ∨ (law % 10 = 1 ∧ law / 10 < k ∧ 0 ≤ v ∧ v < 1440) ∨ (law % 10 = 2 ∧ law / 10 < k ∧ v = 0) ∨ (law % 10 = 4 ∧ law / 10 = 0 ∧ v = 0))
/-- a law of kind g about zone T, number v: an answer of a kind to an input -/
def HLp (ic md : Nat → Int32) (T : TST) (g v kd a m : Int) : Prop := a ≠ -2000000000 ∧ ((g = 0 ∧ kd = 0 ∧ v ≤ a - m) ∨ (g = 1 ∧ kd = 0 ∧ lwF ic md T a ≠ -1 ∧ lwF ic md T a % 1440 = v) ∨ (g = 2 ∧ kd = 0 ∧ lwF ic md T a ≠ -1 ∧ lwF ic md T m ≠ -1 ∧ (lwF ic md T a / 1440 + (ic 8).toInt) % (ic 7).toInt = (lwF ic md T m / 1440 + (ic 8).toInt) % (ic 7).toInt) ∨ (g = 3 ∧ kd = 3 ∧ v ≤ a) ∨ g = 4)
def fP (g : Nat → Int32) (p : Nat) : Nat → Int32 := fun j => g (10 * p + j)
def okRN (fl gop : Nat → Int32) (p m : Int) : Prop := (0 ≤ p ∧ p < 6) ∧ (0 ≤ m ∧ m < 60000000) ∧ MIS (fP gop p.toNat) (fl p.toNat).toInt.toNat = -1
def RNp (ic md : Nat → Int32) (TT : Nat → TST) (fl gop gx gy : Nat → Int32) (p m r : Int) : Prop := (¬ okRN fl gop p m ∧ r = -2000000000) ∨ (okRN fl gop p m ∧ r = RUv ic md TT (fP gop p.toNat) (fP gx p.toNat) (fP gy p.toNat) (fl p.toNat).toInt.toNat m)
def okKP (k : Nat) (p law v m : Int) : Prop := (0 ≤ p ∧ p < 6) ∧ okLW (k : Int) law v ∧ 0 ≤ m ∧ m < 60000000
/-- a program keeps a law at m -/
def KPt (ic md : Nat → Int32) (TT : Nat → TST) (fo fx fy : Nat → Int32) (n : Nat) (law v m : Int) : Prop := HLp ic md (TT (law / 10).toNat) (law % 10) v (KDr fo n) (RUv ic md TT fo fx fy n m) m
def KPp (k : Nat) (ic md : Nat → Int32) (TT : Nat → TST) (fl gop gx gy : Nat → Int32) (p law v m r : Int) : Prop := (¬ okKP k p law v m ∧ r = -1) ∨ (okKP k p law v m ∧ ¬ MIS (fP gop p.toNat) (fl p.toNat).toInt.toNat = -1 ∧ r = -4) ∨ (okKP k p law v m ∧ MIS (fP gop p.toNat) (fl p.toNat).toInt.toNat = -1 ∧ ((KPt ic md TT (fP gop p.toNat) (fP gx p.toNat) (fP gy p.toNat) (fl p.toNat).toInt.toNat law v m ∧ r = 1) ∨ (¬ KPt ic md TT (fP gop p.toNat) (fP gx p.toNat) (fP gy p.toNat) (fl p.toNat).toInt.toNat law v m ∧ r = 0)))
theorem RNp_one {ic md : Nat → Int32} {TT : Nat → TST} {fl gop gx gy : Nat → Int32} {p m r s : Int} (h1 : RNp ic md TT fl gop gx gy p m r) (h2 : RNp ic md TT fl gop gx gy p m s) : r = s := by
  rcases h1 with ⟨a, b⟩ | ⟨a, b⟩
  · rcases h2 with ⟨c, d⟩ | ⟨c, d⟩
    · omega
    · exact absurd c a
  · rcases h2 with ⟨c, d⟩ | ⟨c, d⟩
    · exact absurd a c
    · rw [b, d]
theorem KPp_one {k : Nat} {ic md : Nat → Int32} {TT : Nat → TST} {fl gop gx gy : Nat → Int32} {p law v m r s : Int} (h1 : KPp k ic md TT fl gop gx gy p law v m r) (h2 : KPp k ic md TT fl gop gx gy p law v m s) : r = s := by
  rcases h1 with ⟨a, b⟩ | ⟨a, b, c⟩ | ⟨a, b, c⟩
  · rcases h2 with ⟨d, e⟩ | ⟨d, e, f⟩ | ⟨d, e, f⟩
    · omega
    · exact absurd d a
    · exact absurd d a
  · rcases h2 with ⟨d, e⟩ | ⟨d, e, f⟩ | ⟨d, e, f⟩
    · exact absurd a d
    · omega
    · exact absurd e b
  · rcases h2 with ⟨d, e⟩ | ⟨d, e, f⟩ | ⟨d, e, f⟩
    · exact absurd a d
    · exact absurd b e
    · rcases c with ⟨c1, c2⟩ | ⟨c1, c2⟩
      · rcases f with ⟨f1, f2⟩ | ⟨f1, f2⟩
        · omega
        · exact absurd c1 f1
      · rcases f with ⟨f1, f2⟩ | ⟨f1, f2⟩
        · exact absurd f1 c1
        · omega
def KCl (G : Gl) (ad : Nat → Nat) (k : Nat) (ic md : Nat → Int32) (kn : Int32) (fl gop gx gy rf rto ron rat rbe rtd rm fv : Nat → Int32) (E : Nat → va_E) : Prop :=
  (∃ io : Nat → Int32, E 0 = ob 8 (rfs ad [1, 6, 8, 48, 45, 51]) io ∧ io 7 = kn) ∧ CalW G ad E ic md ∧ (∃ (iz : Nat → Int32) (fz : Nat → Option Nat), E 6 = ob 7 (rfs ad [7]) iz ∧ (iz 1).toInt = (k : Int) ∧ E 7 = aQ G 3 5 fz ∧ ∀ i, i < k → fz i = some (ad (98 + 9 * i))) ∧ (∃ fp : Nat → Option Nat, E 8 = aQ G 4 6 fp ∧ ∀ i, i < 6 → fp i = some (ad (9 + 6 * i))) ∧ (∀ p, p < 6 → PgX G ad (9 + 6 * p) E (fl p) (fP gop p) (fP gx p) (fP gy p)) ∧ (∀ i, 0 ≤ (fl i).toInt ∧ (fl i).toInt ≤ 10) ∧ (∃ i48 : Nat → Int32, E 48 = ob 1 (rfs ad [1, 6, 49, 45]) i48) ∧ (∃ i49 : Nat → Int32, E 49 = ob 2 (rfs ad [1, 6, 50]) i49) ∧ (∃ pv : Nat → Int32, E 50 = aI G 8 pv) ∧ ZCl G ad k ic md rf rto ron rat rbe rtd rm fv E ∧ k ≤ 5
section RUNM
variable {G : Gl} {ad : Nat → Nat} {k : Nat} {ic md : Nat → Int32} {kn : Int32} {fl gop gx gy rf rto ron rat rbe rtd rm fv : Nat → Int32} {E E1 : Nat → va_E}
theorem KCl.kst (h : KCl G ad k ic md kn fl gop gx gy rf rto ron rat rbe rtd rm fv E) (hV : ∀ z, z < k → RZv ic rf rto ron rat rbe rtd rm fv z) (o : ∀ j, j < 98 → E1 j = E j) (hY : ∀ i, i < k → ZYp G ad (98 + 9 * i) (TTz ic md rf rto ron rat rbe rtd rm fv kn.toInt i) E1) : KSt G ad k ic md (TTz ic md rf rto ron rat rbe rtd rm fv kn.toInt) E1 := by
  obtain ⟨-, hC, ⟨iz, fz, h6, hzk, h7, hfz⟩, -, -, -, -, ⟨i49, h49⟩, -, -, hk⟩ := h
  have hP : CalP ic md := by obtain ⟨ms, ld, ys, -, -, -, -, -, hP, -⟩ := hC; exact hP
  exact ⟨⟨i49, (o 49 (by decide)).trans h49⟩, hC.go (fun j hj => o j (by omega)), ⟨iz, fz, (o 6 (by decide)).trans h6, hzk, (o 7 (by decide)).trans h7, hfz⟩, fun i hi => ⟨hY i hi, (TTz_ok hP (hV i hi)).1⟩, hk⟩
theorem RV_ok {TT : Nat → TST} {fo fx fy : Nat → Int32} {n : Nat} {m : Int} {K : Nat → Int32} (hm : 0 ≤ m ∧ m < 60000000) (hop : ∀ j, j < n → 0 ≤ (fo j).toInt ∧ (fo j).toInt ≤ 11) (hw : RSf fo n = some (1, K)) : ∀ i, i ≤ n → ∀ (s : Int × (Nat → Int32)) (V : Nat → Int), RSf fo i = some s → RVf ic md TT fo fx fy m i = some V → okV ic md s.1 s.2 V := by
  intro i
  induction i with
  | zero => intro _ s V h1 _; injection h1 with h1; subst h1; exact fun j hj => absurd hj (by show ¬ (j : Int) < 0; omega)
  | succ i ih =>
    intro hi s V h1 h2
    obtain ⟨s0, h0⟩ := RS_all hw (k := i) (by omega)
    cases hv : RVf ic md TT fo fx fy m i with
    | none => rw [RV_n hv (i + 1) (by omega)] at h2; cases h2
    | some V0 =>
      have h3 := RV_s h0 h1 hv
      rw [h2] at h3
      have hf : FTs (fo i).toInt s0.1 s0.2 = some (s.1, s.2) := by rw [← RS_s h0]; exact h1
      exact VS_ok hm (hop i (by omega)) (RS_ok i s0 h0) (ih (by omega) s0 V0 h0 hv) hf h3.symm
theorem RU_bd {TT : Nat → TST} {fo fx fy : Nat → Int32} {n : Nat} {m : Int} {K : Nat → Int32} (hm : 0 ≤ m ∧ m < 60000000) (hop : ∀ j, j < n → 0 ≤ (fo j).toInt ∧ (fo j).toInt ≤ 11) (hw : RSf fo n = some (1, K)) : RUv ic md TT fo fx fy n m = -2000000000 ∨ wiK ic md (K 0).toInt (RUv ic md TT fo fx fy n m) := by
  cases hv : RVf ic md TT fo fx fy m n with
  | none => exact Or.inl (RU_none hv (Nat.le_refl n))
  | some V =>
    right
    rw [RU_some hv]
    exact RV_ok hm hop hw n (Nat.le_refl n) (1, K) V hw hv 0 (show ((0 : Nat) : Int) < 1 by decide)
end RUNM
