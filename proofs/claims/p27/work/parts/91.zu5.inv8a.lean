/-! ===== odd moments that are held from call to call ===== -/
def OdC (G : Gl) (ad : Nat → Nat) (k : Nat) (ic md : Nat → Int32) (TT : Nat → TST) (E : Nat → va_E) : Prop := ∃ (iq ls : Nat → Int32) (mk : Nat → Int64), E 45 = ob 4 (rfs ad [46, 47]) iq ∧ E 46 = aJ G 31251 mk ∧ E 47 = aI G 26002 ls ∧ (0 ≤ (iq 2).toInt ∧ (iq 2).toInt ≤ 26002) ∧ (iq 5 = 0 ∨ iq 5 = 1) ∧ OdI k TT (YSf md (ic 4).toInt (ic 5).toInt 100) iq ls
def GOp (G : Gl) (ad : Nat → Nat) (k : Nat) (ic md : Nat → Int32) (TT : Nat → TST) (x y : Int32) (E : Nat → va_E) : Prop := ∃ (iq ls : Nat → Int32) (n0 : Nat), E 45 = ob 4 (rfs ad [46, 47]) iq ∧ E 47 = aI G 26002 ls ∧ (∃ mk : Nat → Int64, E 46 = aJ G 31251 mk) ∧ iq 5 = 1 ∧ iq 3 = x ∧ iq 4 = y ∧ (iq 2).toInt = (n0 : Int) ∧ n0 ≤ 26002 ∧ isEn (isOd k TT (YSf md (ic 4).toInt (ic 5).toInt 100) x.toInt y.toInt) n0 (fun i => (ls i).toInt)
def okRow (a n most : Int) : Prop := (0 ≤ a ∧ a < 60000000) ∧ (0 ≤ n ∧ n ≤ most) ∧ a + n < 60000000
section INV8A
variable {G : Gl} {ad ad1 : Nat → Nat} {k k' : Nat} {ic md ic' md' rf rto ron rat rbe rtd rm fv : Nat → Int32} {TT TT' : Nat → TST} {kz : Int} {E0 E E1 : Nat → va_E}
theorem OdC.go (h : OdC G ad k ic md TT E) (o : ∀ j, 45 ≤ j → j ≤ 47 → E1 j = E j) : OdC G ad k ic md TT E1 := by
  obtain ⟨iq, ls, mk, h1, h2, h3, r⟩ := h
  exact ⟨iq, ls, mk, (o 45 (by decide) (by decide)).trans h1, (o 46 (by decide) (by decide)).trans h2, (o 47 (by decide) (by decide)).trans h3, r⟩
theorem GOp.odc {x y : Int32} (h : GOp G ad k ic md TT x y E) (hab : okOD x.toInt y.toInt) : OdC G ad k ic md TT E := by
  obtain ⟨iq, ls, n0, h1, h3, ⟨mk, h2⟩, h5, e3, e4, hc, hn, hen⟩ := h
  refine ⟨iq, ls, mk, h1, h2, h3, ⟨by omega, by omega⟩, Or.inr h5, fun _ => ⟨by rw [e3, e4]; exact hab, n0, hc, hn, ?_⟩⟩
  rw [e3, e4]
  exact hen
theorem OdC.off {iq : Nat → Int32} (h : OdC G ad k ic md TT E) (e45 : E 45 = ob 4 (rfs ad [46, 47]) iq) (g45 : E1 45 = ob 4 (rfs ad1 [46, 47]) (va_up iq 5 0)) (o46 : E1 46 = E 46) (o47 : E1 47 = E 47) : OdC G ad1 k' ic' md' TT' E1 := by
  obtain ⟨iq2, ls, mk, h1, h2, h3, hb, -⟩ := h
  have e := ob_in (h1.symm.trans e45) (q := 2) (by decide) rfl
  refine ⟨_, ls, mk, g45, o46.trans h2, o47.trans h3, ?_, Or.inl (by simp [va_up]), fun q => ?_⟩
  · rw [show va_up iq 5 0 2 = iq 2 by simp [va_up], ← e]; exact hb
  · have q2 : va_up iq 5 0 5 = 0 := by simp [va_up]
    rw [q2] at q
    exact absurd q (by decide)
theorem isOd_0 {Y Y' a b m : Int} : isOd 0 TT Y a b m ↔ isOd 0 TT' Y' a b m := by
  unfold isOd
  constructor
  · rintro ⟨h, q | q | ⟨z, hz, -⟩⟩
    · exact ⟨h, Or.inl q⟩
    · exact ⟨h, Or.inr (Or.inl q)⟩
    · exact absurd hz (Nat.not_lt_zero z)
  · rintro ⟨h, q | q | ⟨z, hz, -⟩⟩
    · exact ⟨h, Or.inl q⟩
    · exact ⟨h, Or.inr (Or.inl q)⟩
    · exact absurd hz (Nat.not_lt_zero z)
theorem OdC.zero (h : OdC G ad k ic md TT E) (hk : k = 0) (o : ∀ j, 45 ≤ j → j ≤ 47 → E1 j = E j) : OdC G ad k ic' md' TT' E1 := by
  subst hk
  obtain ⟨iq, ls, mk, h1, h2, h3, hb, h5, hI⟩ := h.go o
  refine ⟨iq, ls, mk, h1, h2, h3, hb, h5, fun q => ?_⟩
  obtain ⟨a1, n0, a2, a3, a4⟩ := hI q
  exact ⟨a1, n0, a2, a3, en_congr a4 (fun m => isOd_0) (fun _ _ => rfl)⟩
theorem ZCl.up (h : ZCl G ad k ic md rf rto ron rat rbe rtd rm fv E) (o : ∀ j, 98 ≤ j → E1 j = E j) : ZCl G ad k ic md rf rto ron rat rbe rtd rm fv E1 := fun i hi => (h i hi).go (fun j h1 _ => o j (by omega))
theorem OdC.t45 (h : OdC G ad k ic md TT E) (kk : Nat) : HasTy G ad (Ty8 kk 45) (E 45) := by
  obtain ⟨iq, ls, mk, h1, h2, h3, hb, h5, hI⟩ := h
  refine ⟨fun _ => ⟨iq, h1, fun q => ?_⟩, fun q => absurd (show (0 : Nat) = 1 from q) (by decide), fun q => absurd (show (0 : Nat) = 2 from q) (by decide), fun q => absurd (show (0 : Nat) = 3 from q) (by decide)⟩
  show (bd4 q).1 ≤ (iq q).toInt ∧ (iq q).toInt ≤ (bd4 q).2
  unfold bd4
  by_cases q2 : q = 2
  · rw [if_pos q2, q2]; exact hb
  · rw [if_neg q2]
    by_cases q5 : q = 5
    · rw [if_pos q5, q5]
      rcases h5 with e | e <;> rw [e] <;> decide
    · rw [if_neg q5]; exact ti_any _
theorem OdC.t46 (h : OdC G ad k ic md TT E) (kk : Nat) : HasTy G ad (Ty8 kk 46) (E 46) := by
  obtain ⟨iq, ls, mk, h1, h2, h3, -⟩ := h
  exact ⟨fun q => absurd (show (2 : Nat) = 0 from q) (by decide), fun q => absurd (show (2 : Nat) = 1 from q) (by decide), fun _ => ⟨_, h2⟩, fun q => absurd (show (2 : Nat) = 3 from q) (by decide)⟩
theorem OdC.t47 (h : OdC G ad k ic md TT E) (kk : Nat) : HasTy G ad (Ty8 kk 47) (E 47) := by
  obtain ⟨iq, ls, mk, h1, h2, h3, -⟩ := h
  exact HasTy.any h3
/-- what a call leaves that gathers odd moments -/
def SOd (G : Gl) (ad : Nat → Nat) (k : Nat) (ic md rf rto ron rat rbe rtd rm fv : Nat → Int32) (kz : Int) (E E1 : Nat → va_E) : Prop := (∀ j, j < 98 → j ≠ 45 → j ≠ 46 → j ≠ 47 → E1 j = E j) ∧ ZCl G ad k ic md rf rto ron rat rbe rtd rm fv E1 ∧ OdC G ad k ic md (TTz ic md rf rto ron rat rbe rtd rm fv kz) E1
theorem SOd.j8 (s : SOd G ad k ic md rf rto ron rat rbe rtd rm fv kz E E1) (h : J8 G ad k E0 E) (hP : CalP ic md) (hV : ∀ z, z < k → RZv ic rf rto ron rat rbe rtd rm fv z) : J8 G ad k E0 E1 := by
  obtain ⟨o, hZ, hO⟩ := s
  refine h.with ⟨fun j hj => (o j ?_ ?_ ?_ ?_).trans (h.2.2.1 j hj), fun j hj => ?_⟩
  · unfold P8 at hj; omega
  · unfold P8 at hj; omega
  · unfold P8 at hj; omega
  · unfold P8 at hj; omega
  by_cases q45 : j = 45
  · rw [q45]; exact hO.t45 k
  by_cases q46 : j = 46
  · rw [q46]; exact hO.t46 k
  by_cases q47 : j = 47
  · rw [q47]; exact hO.t47 k
  by_cases q : j < 98
  · rw [o j q q45 q46 q47]; exact h.2.2.2 j hj
  have hj2 : j < 98 + 9 * k := hj
  obtain ⟨i, r, hi, hr, e⟩ : ∃ i r, i < k ∧ r < 9 ∧ j = 98 + 9 * i + r := ⟨(j - 98) / 9, (j - 98) % 9, by omega, by omega, by omega⟩
  rw [e]
  exact zn1_ty ⟨i, hi, rfl⟩ (hZ i hi) (by have := (hV i hi).1; omega) ((hZ i hi).c10 hP (hV i hi)) r hr
theorem OIp_neg {Y a b i r : Int} (h : OIp k TT Y a b i r) (hi : i < 0) : r = -1 := by
  rcases h with ⟨-, q⟩ | ⟨-, n, f, -, ⟨q, -⟩ | ⟨-, q⟩⟩
  · exact q
  · omega
  · exact q
def OIq (k : Nat) (TT : Nat → TST) (Y a b i r : Int) : Prop := (i < 0 ∧ r = -1) ∨ OIp k TT Y a b i r
theorem OIq_one {Y a b i r s : Int} (h1 : OIq k TT Y a b i r) (h2 : OIp k TT Y a b i s) : r = s := by
  rcases h1 with ⟨q, e⟩ | h1
  · rw [e, OIp_neg h2 q]
  · exact OIp_one h1 h2
end INV8A
