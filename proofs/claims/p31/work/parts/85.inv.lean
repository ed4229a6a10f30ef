/-! ===== what holds between two calls of the law: the class's side, the reference's side ===== -/
def PU (j : Nat) : Prop := j < 68 ∨ j = 69 ∨ (85 ≤ j ∧ j < 89) ∨ 98 ≤ j
theorem PU_PR {j : Nat} (h : PU j) : PR j := by
  unfold PU at h; unfold PR; omega
theorem PU_PT {j : Nat} (h : PU j) : PT j := by
  unfold PU at h; unfold PT; omega
def bdM (k : Nat) (td kn : Int32) : Nat → Int × Int := fun q => if q = 7 then (0, 1) else if q = 16 then ((k : Int), (k : Int)) else if q = 17 then (td.toInt, td.toInt) else if q = 18 then (kn.toInt, kn.toInt) else if q = 32 then (0, 10) else if q = 35 then (0, 8) else if q = 39 then (0, 10) else if q = 41 then (0, 40000) else (-2147483648, 2147483647)
def C8 (G : Gl) (ad : Nat → Nat) (k : Nat) (ic md : Nat → Int32) (td kn : Int32) (fl : Nat → Int32) (E : Nat → va_E) : Prop := J8 G ad k E E ∧ CalW G ad E ic md ∧ (∃ io : Nat → Int32, E 0 = ob 8 (rfs ad [1, 6, 8, 48, 45, 51]) io ∧ io 6 = td ∧ io 7 = kn) ∧ ∀ p, p < 6 → ∃ ip : Nat → Int32, E (9 + 6 * p) = ob 5 (rP ad (9 + 6 * p)) ip ∧ ip 6 = fl p
def R9 (G : Gl) (ad : Nat → Nat) (n k : Nat) (ic md : Nat → Int32) (td kn : Int32) (fl : Nat → Int32) (E : Nat → va_E) : Prop := JM G ad n ic md (bdM k td kn) PT E E ∧ ∃ gop gx gy : Nat → Int32, E 85 = aI G 60 gop ∧ E 86 = aI G 60 gx ∧ E 87 = aI G 60 gy ∧ E 88 = aI G 6 fl ∧ LXg gop gx
section INV
variable {G : Gl} {ad ad1 : Nat → Nat} {n n1 k : Nat} {ic md : Nat → Int32} {td kn : Int32} {fl : Nat → Int32} {P : Nat → Prop} {E0 E E1 : Nat → va_E} {bd : Nat → Int × Int}
theorem HasTy.out {x : va_E} : HasTy G ad (9, 0, [], anyB) x := ⟨fun q => absurd (show (9 : Nat) = 0 from q) (by decide), fun q => absurd (show (9 : Nat) = 1 from q) (by decide), fun q => absurd (show (9 : Nat) = 2 from q) (by decide), fun q => absurd (show (9 : Nat) = 3 from q) (by decide)⟩
theorem TyM_out {j : Nat} (h : j < 71 ∨ 98 ≤ j) : TyM j = (9, 0, [], anyB) := by
  unfold TyM
  repeat rw [if_neg (by omega)]
theorem Ty8_mid {j : Nat} (h : 68 ≤ j ∧ j < 98) : Ty8 k j = (9, 0, [], anyB) := by
  unfold Ty8
  repeat rw [if_neg (by omega)]
theorem Ty8_low {j : Nat} (h : j < 6 ∨ j = 7 ∨ j = 8) : Ty8 k j = (9, 0, [], anyB) := by
  unfold Ty8
  repeat rw [if_neg (by omega)]
theorem B8.of (h : B8 G ad k E) (hE : ∀ j, j < 9 → E1 j = E j) : B8 G ad k E1 := by
  obtain ⟨⟨io, h0⟩, ⟨ic, md, ms, ld, ys, h1, h2, h3, h4, h5, hP, hF⟩, ⟨fz, h7, hz⟩, fp, h8, hp⟩ := h
  exact ⟨⟨io, (hE 0 (by decide)).trans h0⟩, ⟨ic, md, ms, ld, ys, (hE 1 (by decide)).trans h1, (hE 2 (by decide)).trans h2, (hE 3 (by decide)).trans h3, (hE 4 (by decide)).trans h4, (hE 5 (by decide)).trans h5, hP, hF⟩, ⟨fz, (hE 7 (by decide)).trans h7, hz⟩, fp, (hE 8 (by decide)).trans h8, hp⟩
theorem CalW.of (h : CalW G ad E ic md) (hE : ∀ j, j < 6 → E1 j = E j) : CalW G ad E1 ic md := by
  obtain ⟨ms, ld, ys, h1, h2, h3, h4, h5, hP, hF⟩ := h
  exact ⟨ms, ld, ys, (hE 1 (by decide)).trans h1, (hE 2 (by decide)).trans h2, (hE 3 (by decide)).trans h3, (hE 4 (by decide)).trans h4, (hE 5 (by decide)).trans h5, hP, hF⟩
theorem J8.own (h : J8 G ad k E E1) : J8 G ad k E1 E1 := ⟨h.1, h.2.1.of (fun j hj => h.low (by omega)), fun _ _ => rfl, h.2.2.2⟩
theorem C8.step (h : C8 G ad k ic md td kn fl E) (hJ : J8 G ad k E E1) : C8 G ad k ic md td kn fl E1 := by
  obtain ⟨-, h2, ⟨io, h3, h4⟩, h5⟩ := h
  refine ⟨hJ.own, h2.of (fun j hj => hJ.low (by omega)), ⟨io, (hJ.low (by decide)).trans h3, h4⟩, fun p hp => ?_⟩
  obtain ⟨ip, e1, e2⟩ := h5 p hp
  exact ⟨ip, (hJ.low (by omega)).trans e1, e2⟩
theorem J8.rest (hJ : J8 G ad k E E1) : ∀ j, 68 ≤ j → j < 98 → E1 j = E j := fun j h1 h2 => hJ.2.2.1 j (Or.inr ⟨h1, h2⟩)
theorem JM.keep (h : JM G ad n ic md bd P E0 E) (hE : ∀ j, 68 ≤ j → j < 98 → E1 j = E j) : JM G ad n ic md bd PT E1 E1 := by
  obtain ⟨⟨im, hm, hb⟩, ⟨-, h2⟩, h3⟩ := h
  refine ⟨⟨im, hm.of (hE 68 (by decide) (by decide)) (hE 69 (by decide) (by decide)) (hE 70 (by decide) (by decide)), hb⟩, ⟨fun _ _ => rfl, fun j hj => ?_⟩, h3⟩
  by_cases q : j < 71 ∨ 98 ≤ j
  · rw [TyM_out q]; exact HasTy.out
  · rw [hE j (by omega) (by omega)]; exact h2 j hj
theorem R9.cls (h : R9 G ad n k ic md td kn fl E) (hE : ∀ j, 68 ≤ j → j < 98 → E1 j = E j) : R9 G ad n k ic md td kn fl E1 := by
  obtain ⟨h1, gop, gx, gy, e1, e2, e3, e4, h5⟩ := h
  exact ⟨h1.keep hE, gop, gx, gy, (hE _ (by decide) (by decide)).trans e1, (hE _ (by decide) (by decide)).trans e2, (hE _ (by decide) (by decide)).trans e3, (hE _ (by decide) (by decide)).trans e4, h5⟩
theorem JM.pt (h : JM G ad n ic md bd PR E0 E) : JM G ad n ic md bd PT E0 E := ⟨h.1, ⟨fun j hj => h.2.1.1 j (PT_PR hj), h.2.1.2⟩, h.2.2⟩
theorem R9.step (h : R9 G ad n k ic md td kn fl E) (hJ : JM G ad n ic md (bdM k td kn) PT E E1) : R9 G ad n k ic md td kn fl E1 := by
  obtain ⟨-, gop, gx, gy, e1, e2, e3, e4, h5⟩ := h
  have K : ∀ j, 85 ≤ j → j < 89 → E1 j = E j := fun j h1 h2 => hJ.2.1.1 j (by unfold PT; omega)
  exact ⟨⟨hJ.1, ⟨fun _ _ => rfl, hJ.2.1.2⟩, hJ.2.2⟩, gop, gx, gy, (K _ (by decide) (by decide)).trans e1, (K _ (by decide) (by decide)).trans e2, (K _ (by decide) (by decide)).trans e3, (K _ (by decide) (by decide)).trans e4, h5⟩
theorem JM.rest (hJ : JM G ad n ic md bd PT E E1) : ∀ j, (j < 68 ∨ 98 ≤ j) → E1 j = E j := fun j h => hJ.2.1.1 j (by unfold PT; omega)
theorem J8.ref (h : J8 G ad k E E) (hE : ∀ j, (j < 68 ∨ 98 ≤ j) → E1 j = E j) : J8 G ad k E1 E1 := by
  refine ⟨h.1, h.2.1.of (fun j hj => hE j (by omega)), fun _ _ => rfl, fun j hj => ?_⟩
  by_cases q : 68 ≤ j ∧ j < 98
  · rw [Ty8_mid q]; exact HasTy.out
  · rw [hE j (by omega)]; exact h.2.2.2 j hj
theorem C8.ref (h : C8 G ad k ic md td kn fl E) (hE : ∀ j, (j < 68 ∨ 98 ≤ j) → E1 j = E j) : C8 G ad k ic md td kn fl E1 := by
  obtain ⟨h1, h2, ⟨io, h3, h4⟩, h5⟩ := h
  refine ⟨h1.ref hE, h2.of (fun j hj => hE j (by omega)), ⟨io, (hE 0 (by omega)).trans h3, h4⟩, fun p hp => ?_⟩
  obtain ⟨ip, e1, e2⟩ := h5 p hp
  exact ⟨ip, (hE _ (by omega)).trans e1, e2⟩
theorem R9.bl (h : R9 G ad n k ic md td kn fl E) : ∀ q, 0 ≤ (fl q).toInt ∧ (fl q).toInt ≤ 10 := by
  obtain ⟨h1, gop, gx, gy, e1, e2, e3, e4, h5⟩ := h
  have hn := h1.hn
  obtain ⟨f, e, b⟩ := h1.2.1.getA (b := 88) (by omega) rfl
  rw [aI_inj (e4.symm.trans e)]
  exact b
theorem R9.k5 (h : R9 G ad n k ic md td kn fl E) : k ≤ 5 := by
  have := h.1.2.2.2.2
  have h2 : (0 : Int) ≤ k ∧ (k : Int) ≤ 5 := this
  omega
theorem R9.hn (h : R9 G ad n k ic md td kn fl E) : 98 ≤ n := h.1.hn
/-- the class's own cells, told anew -/
theorem C8.mk (h : J8 G ad k E E) (hJJ : ∀ j, j < 98 + 9 * k → HasTy G ad (Ty8 k j) (E1 j)) (hB : B8 G ad k E1) (hC : CalW G ad E1 ic md) (hO : ∃ io : Nat → Int32, E1 0 = ob 8 (rfs ad [1, 6, 8, 48, 45, 51]) io ∧ io 6 = td ∧ io 7 = kn) (hp : ∀ p, p < 6 → ∃ ip : Nat → Int32, E1 (9 + 6 * p) = ob 5 (rP ad (9 + 6 * p)) ip ∧ ip 6 = fl p) : C8 G ad k ic md td kn fl E1 := ⟨⟨h.1, hB, fun _ _ => rfl, hJJ⟩, hC, hO, hp⟩
/-- cells that have no shape of their own (0 .. 5, 7, 8) and the odds' (45) have changed -/
theorem C8.low {ic' md' : Nat → Int32} {td' kn' : Int32} (h : C8 G ad k ic md td kn fl E) (hE : ∀ j, 6 ≤ j → j ≠ 45 → E1 j = E j) (h45 : HasTy G ad (Ty8 k 45) (E1 45)) (hC : CalW G ad E1 ic' md') (hO : ∃ io : Nat → Int32, E1 0 = ob 8 (rfs ad [1, 6, 8, 48, 45, 51]) io ∧ io 6 = td' ∧ io 7 = kn') : C8 G ad k ic' md' td' kn' fl E1 := by
  obtain ⟨h1, h2, h3, h5⟩ := h
  obtain ⟨-, -, ⟨fz, h7, hz⟩, fp, h8, hp⟩ := h1.2.1
  refine C8.mk h1 (fun j hj => ?_) ⟨(by obtain ⟨io, e, -⟩ := hO; exact ⟨io, e⟩), ⟨ic', md', hC⟩, ⟨fz, (hE 7 (by decide) (by decide)).trans h7, hz⟩, fp, (hE 8 (by decide) (by decide)).trans h8, hp⟩ hC hO (fun p hp => ?_)
  · by_cases q : j < 6
    · rw [Ty8_low (Or.inl q)]; exact HasTy.out
    · by_cases q2 : j = 45
      · rw [q2]; exact h45
      · rw [hE j (by omega) q2]; exact h1.2.2.2 j hj
  · obtain ⟨ip, e1, e2⟩ := h5 p hp
    exact ⟨ip, (hE _ (by omega) (by omega)).trans e1, e2⟩
end INV
