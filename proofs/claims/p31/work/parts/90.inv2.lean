/-! ===== every call between the two sides: what it answers and what it leaves ===== -/
theorem CtI.mono {l : Launch} {G : Gl} {y : MethodName} {cc : ByteArray} {maxL : Nat} {ret : FieldType} {fr lo : Nat} {n : Nat} {ad : Nat → Nat} {E : Nat → va_E} {av : List Value} {post post' : Int32 → (Nat → va_E) → Prop} (h : CtI l G y cc maxL ret fr lo n ad E av post) (hp : ∀ r E', post r E' → post' r E') : CtI l G y cc maxL ret fr lo n ad E av post' :=
  fun sz => MetFree.mono (h sz) (fun _ _ h => h) (fun _ _ _ _ _ h => h) (fun _ _ _ _ _ hQ => by
    obtain ⟨⟨⟨r, u, e, hq, hB⟩, hF⟩, hL⟩ := hQ
    exact ⟨⟨⟨r, u, e, hp r u hq, hB⟩, hF⟩, hL⟩)
theorem CtZ.mono {l : Launch} {G : Gl} {y : MethodName} {cc : ByteArray} {maxL : Nat} {ret : FieldType} {fr lo mk mw : Nat} {n : Nat} {ad : Nat → Nat} {E : Nat → va_E} {av : List Value} {post post' : Int32 → Nat × (Nat → Nat) × (Nat → va_E) → Prop} (h : CtZ l G y cc maxL ret fr lo mk mw n ad E av post) (hp : ∀ r u, post r u → post' r u) : CtZ l G y cc maxL ret fr lo mk mw n ad E av post' :=
  fun sz => MetFree.mono (h sz) (fun _ _ h => h) (fun _ _ _ _ _ h => h) (fun _ _ _ _ _ hQ => by
    obtain ⟨⟨⟨r, u, e, hq, hB⟩, hF⟩, hL⟩ := hQ
    exact ⟨⟨⟨r, u, e, hp r u hq, hB⟩, hF⟩, hL⟩)
def TDf (t d : Int32) : Int32 := if t.toInt ≤ d.toInt ∧ d.toInt ≤ 99999 then d else t
def TDr (t d : Int32) : Int := if t.toInt ≤ d.toInt ∧ d.toInt ≤ 99999 then t.toInt else -1
def KNf (t d : Int32) : Int32 := if 0 ≤ d.toInt ∧ d.toInt ≤ 99999 then d else t
def KNr (t d : Int32) : Int := if 0 ≤ d.toInt ∧ d.toInt ≤ 99999 then t.toInt else -1
abbrev okMN (m d : Int32) : Prop := 0 ≤ m.toInt ∧ m.toInt < 12 ∧ 1 ≤ d.toInt ∧ d.toInt ≤ 40
def MNf (k : Nat) (md : Nat → Int32) (m d : Int32) : Nat → Int32 := if okMN m d ∧ k = 0 then upd md (Int.toNat m.toInt) d else md
def MNr (k : Nat) (md : Nat → Int32) (m d : Int32) : Int := if okMN m d then (if k = 0 then (md (Int.toNat m.toInt)).toInt else -3) else -1
abbrev okLP (a b m : Int32) : Prop := 2 ≤ a.toInt ∧ a.toInt ≤ 50 ∧ 2 ≤ b.toInt ∧ b.toInt ≤ 100 ∧ 0 ≤ m.toInt ∧ m.toInt < 12
def LPg (k : Nat) (ic : Nat → Int32) (a b m : Int32) : Nat → Int32 := if okLP a b m ∧ k = 0 then va_up (va_up (va_up ic 4 a) 5 b) 6 m else ic
def LPr (k : Nat) (a b m : Int32) : Int := if okLP a b m then (if k = 0 then 1 else -3) else -1
abbrev okWK (w f : Int32) : Prop := 2 ≤ w.toInt ∧ w.toInt ≤ 10 ∧ 0 ≤ f.toInt ∧ f.toInt ≤ 9
def WKg (k : Nat) (ic : Nat → Int32) (w f : Int32) : Nat → Int32 := if okWK w f ∧ k = 0 then va_up (va_up ic 7 w) 8 f else ic
def WKr (k : Nat) (w f : Int32) : Int := if okWK w f then (if k = 0 then 1 else -3) else -1
abbrev okZN (v : Int32) : Prop := -720 ≤ v.toInt ∧ v.toInt ≤ 720
def ZNk (k : Nat) (v : Int32) : Nat := if okZN v ∧ k < 5 then k + 1 else k
def ZNr (k : Nat) (v : Int32) : Int := if okZN v then (if k < 5 then (k : Int) else -2) else -1
abbrev okPg (p : Int32) : Prop := 0 ≤ p.toInt ∧ p.toInt < 6
def CLf (fl : Nat → Int32) (p : Int32) : Nat → Int32 := if okPg p then upd fl p.toInt.toNat 0 else fl
def CLr (fl : Nat → Int32) (p : Int32) : Int := if okPg p then (fl p.toInt.toNat).toInt else -1
abbrev okLI (k : Nat) (p op x y : Int32) : Prop := 0 ≤ p.toInt ∧ p.toInt < 6 ∧ okLn (k : Int) op.toInt x.toInt y.toInt
def LNf (k : Nat) (fl : Nat → Int32) (p op x y : Int32) : Nat → Int32 := if okLI k p op x y ∧ (fl p.toInt.toNat).toInt < 10 then upd fl p.toInt.toNat (fl p.toInt.toNat + 1) else fl
def LNr (k : Nat) (fl : Nat → Int32) (p op x y : Int32) : Int := if okLI k p op x y then (if (fl p.toInt.toNat).toInt < 10 then (fl p.toInt.toNat).toInt else -2) else -1
section INV2
variable {G : Gl} {ad ad1 : Nat → Nat} {n n1 k : Nat} {ic md ic' md' : Nat → Int32} {td kn td' kn' : Int32} {fl fl' : Nat → Int32} {P : Nat → Prop} {E0 E E1 : Nat → va_E} {bd : Nat → Int × Int}
theorem ob_in {ci : Nat} {r r' : Nat → Option Nat} {i i' : Nat → Int32} (h : ob ci r i = ob ci r' i') {q : Nat} (hq : q < clN ci) (hm : clM ci q = false) : i q = i' q := by
  have h1 : fl (clM ci) (clN ci) r i = fl (clM ci) (clN ci) r' i' := by
    injection h with h2
    injection h2
  have h3 := congrArg (fun L => L[q]?) h1
  simp only [fl_int (r := r) (i := i) hq hm rfl, fl_int (r := r') (i := i') hq hm rfl] at h3
  injection h3 with h4
  injection h4
theorem C8.z6 (h : C8 G ad k ic md td kn fl E) : ∃ iz : Nat → Int32, E 6 = ob 7 (rfs ad [7]) iz ∧ (iz 1).toInt = (k : Int) := by
  obtain ⟨iz, e, hb⟩ := h.1.2.2.getO (b := 6) (by omega) rfl
  have h1 : (k : Int) ≤ (iz 1).toInt ∧ (iz 1).toInt ≤ (k : Int) := hb 1
  exact ⟨iz, e, by omega⟩
theorem C8.c45 (h : C8 G ad k ic md td kn fl E) : HasTy G ad (Ty8 k 45) (E 45) := h.1.2.2.2 45 (by omega)
theorem C8.pgw (h : C8 G ad k ic md td kn fl E) {p : Nat} (hp : p < 6) : PgW G ad (9 + 6 * p) E (fl p) := by
  obtain ⟨ip, e1, e2⟩ := h.2.2.2 p hp
  obtain ⟨sz, hW, -, -⟩ := h.1.pg (PC.p hp)
  obtain ⟨jp, po, px, py, tp, kd, hE, hsz, h5, h6, e3⟩ := hW
  have h7 := ob_in (e1.symm.trans hE) (q := 6) (by decide) rfl
  exact ⟨jp, po, px, py, tp, kd, hE, by rw [← h7]; exact e2, h5, h6, e3⟩
theorem ty45 {iq : Nat → Int32} {x : va_E} (hb : ∀ q, (bd4 q).1 ≤ (iq q).toInt ∧ (iq q).toInt ≤ (bd4 q).2) (hx : x = ob 4 (rfs ad [46, 47]) (va_up iq 5 0)) : HasTy G ad (Ty8 k 45) x :=
  ⟨fun _ => ⟨_, hx, up_bd hb (show (0 : Int) ≤ (0 : Int32).toInt ∧ (0 : Int32).toInt ≤ 1 by decide)⟩, fun q => absurd (show (0 : Nat) = 1 from q) (by decide), fun q => absurd (show (0 : Nat) = 2 from q) (by decide), fun q => absurd (show (0 : Nat) = 3 from q) (by decide)⟩
theorem C8.prog (h : C8 G ad k ic md td kn fl E) {p : Nat} (hp : p < 6) {z : Int32} (hW : PgW G ad (9 + 6 * p) E1 z) (h1 : 0 ≤ z.toInt) (h2 : z.toInt ≤ 10) (hF : Fr6 (9 + 6 * p) E E1) : C8 G ad k ic md td kn (upd fl p z) E1 := by
  obtain ⟨hJ, hC, ⟨io, e0, h0⟩, hP⟩ := h
  refine C8.mk hJ (fun j hj => ?_) (hJ.2.1.of (fun j hj => hF j (by omega))) (hC.of (fun j hj => hF j (by omega))) ⟨io, (hF 0 (by omega)).trans e0, h0⟩ (fun i hi => ?_)
  · by_cases q : j < 9 + 6 * p ∨ 9 + 6 * p + 6 ≤ j
    · rw [hF j q]; exact hJ.2.2.2 j hj
    · obtain ⟨r, hr, rfl⟩ : ∃ r, r < 6 ∧ j = 9 + 6 * p + r := ⟨j - (9 + 6 * p), by omega, by omega⟩
      rw [(PC.p hp).t k hr]
      exact pg_ty hW h1 h2 hr
  · by_cases q : i = p
    · subst q
      obtain ⟨jp, po, px, py, tp, kd, hE, hsz, -⟩ := hW
      exact ⟨jp, hE, by rw [hsz]; simp [upd]⟩
    · obtain ⟨ip, e1, e2⟩ := hP i hi
      exact ⟨ip, (hF _ (by omega)).trans e1, by rw [e2]; simp [upd, q]⟩
/-- the reference's object told anew -/
theorem R9.mk {im' : Nat → Int32} (h : R9 G ad n k ic md td kn fl E) {k' : Nat} (hm : MCal G ad E1 im' ic' md') (hb : ∀ q, (bdM k' td' kn' q).1 ≤ (im' q).toInt ∧ (im' q).toInt ≤ (bdM k' td' kn' q).2) (hk : k' ≤ 5) (hT : ∀ j, 71 ≤ j → j < 98 → HasTy G ad (TyM j) (E1 j)) (hL : ∃ gop gx gy : Nat → Int32, E1 85 = aI G 60 gop ∧ E1 86 = aI G 60 gx ∧ E1 87 = aI G 60 gy ∧ E1 88 = aI G 6 fl' ∧ LXg gop gx) : R9 G ad n k' ic' md' td' kn' fl' E1 := by
  refine ⟨⟨⟨im', hm, hb⟩, ⟨fun _ _ => rfl, fun j hj => ?_⟩, h.1.2.2.1, rfl, (show (0 : Int) ≤ (k' : Int) ∧ (k' : Int) ≤ 5 by omega)⟩, hL⟩
  by_cases q : j < 71 ∨ 98 ≤ j
  · rw [TyM_out q]; exact HasTy.out
  · exact hT j (by omega) (by omega)
theorem R9.ty (h : R9 G ad n k ic md td kn fl E) : ∀ j, 71 ≤ j → j < 98 → HasTy G ad (TyM j) (E j) := fun j h1 h2 => h.1.2.1.2 j (by have := h.hn; omega)
theorem R9.f17 {im : Nat → Int32} (hb : ∀ q, (bdM k td kn q).1 ≤ (im q).toInt ∧ (im q).toInt ≤ (bdM k td kn q).2) : im 17 = td := by
  have h : td.toInt ≤ (im 17).toInt ∧ (im 17).toInt ≤ td.toInt := hb 17
  exact ti_ext (by omega)
theorem R9.f18 {im : Nat → Int32} (hb : ∀ q, (bdM k td kn q).1 ≤ (im q).toInt ∧ (im q).toInt ≤ (bdM k td kn q).2) : im 18 = kn := by
  have h : kn.toInt ≤ (im 18).toInt ∧ (im 18).toInt ≤ kn.toInt := hb 18
  exact ti_ext (by omega)
theorem R9.f16 {im : Nat → Int32} (hb : ∀ q, (bdM k td kn q).1 ≤ (im q).toInt ∧ (im q).toInt ≤ (bdM k td kn q).2) : (im 16).toInt = (k : Int) := by
  have h : (k : Int) ≤ (im 16).toInt ∧ (im 16).toInt ≤ (k : Int) := hb 16
  omega
theorem bdM_up {im : Nat → Int32} {q0 : Nat} {v : Int32} {k' : Nat} (hb : ∀ q, (bdM k td kn q).1 ≤ (im q).toInt ∧ (im q).toInt ≤ (bdM k td kn q).2) (he : ∀ q, q ≠ q0 → bdM k' td' kn' q = bdM k td kn q) (hv : (bdM k' td' kn' q0).1 ≤ v.toInt ∧ v.toInt ≤ (bdM k' td' kn' q0).2) : ∀ q, (bdM k' td' kn' q).1 ≤ (va_up im q0 v q).toInt ∧ (va_up im q0 v q).toInt ≤ (bdM k' td' kn' q).2 := by
  intro q
  by_cases h : q = q0
  · subst h; simpa [va_up] using hv
  · rw [he q h]; simpa [va_up, h] using hb q
theorem R9.mr {im : Nat → Int32} (h : R9 G ad n k ic md td kn fl E) (hb : ∀ q, (bdM k td kn q).1 ≤ (im q).toInt ∧ (im q).toInt ≤ (bdM k td kn q).2) (hm : MR G ad E E1 im ic md) : JM G ad n ic md (bdM k td kn) PT E E1 := (h.1.self.mr hb (by unfold PR; omega) (by unfold PR; omega) hm).pt
theorem R9.stepU (h : R9 G ad n k ic md td kn fl E) (hJ : JM G ad n ic md (bdM k td kn) PU E E1) : R9 G ad n k ic md td kn fl E1 := by
  obtain ⟨-, gop, gx, gy, e1, e2, e3, e4, h5⟩ := h
  have K : ∀ j, 85 ≤ j → j < 89 → E1 j = E j := fun j h1 h2 => hJ.2.1.1 j (by unfold PU; omega)
  exact ⟨⟨hJ.1, ⟨fun _ _ => rfl, hJ.2.1.2⟩, hJ.2.2⟩, gop, gx, gy, (K _ (by decide) (by decide)).trans e1, (K _ (by decide) (by decide)).trans e2, (K _ (by decide) (by decide)).trans e3, (K _ (by decide) (by decide)).trans e4, h5⟩
theorem JM.restU (hJ : JM G ad n ic md bd PU E E1) : ∀ j, (j < 68 ∨ 98 ≤ j) → E1 j = E j := fun j h => hJ.2.1.1 j (by unfold PU; omega)
theorem JM.selfU (h : JM G ad n ic md bd P E0 E) : JM G ad n ic md bd PU E E := ⟨h.1, ⟨fun _ _ => rfl, h.2.1.2⟩, h.2.2⟩
theorem CalP_lp (h : CalP ic md) {a b m : Int32} (ho : okLP a b m) : CalP (va_up (va_up (va_up ic 4 a) 5 b) 6 m) md := by
  obtain ⟨h1, -, -, -, h5, h6⟩ := h
  obtain ⟨a1, a2, a3, a4, a5, a6⟩ := ho
  exact ⟨h1, ⟨a1, a2⟩, ⟨a3, a4⟩, ⟨a5, a6⟩, h5, h6⟩
theorem CalP_wk (h : CalP ic md) {w f : Int32} (ho : okWK w f) : CalP (va_up (va_up ic 7 w) 8 f) md := by
  obtain ⟨h1, h2, h3, h4, -, -⟩ := h
  obtain ⟨a1, a2, a3, a4⟩ := ho
  exact ⟨h1, h2, h3, h4, ⟨a1, a2⟩, ⟨a3, a4⟩⟩
theorem MCal.anew {im im' : Nat → Int32} (h : MCal G ad E im ic md) (hc : icm im' = ic') (hP : CalP ic' md') (h68 : E1 68 = ob 9 (rX9 ad) im') (h69 : E1 69 = aI G 12 md') (h70 : E1 70 = E 70) (h7 : im' 7 = 0) : MCal G ad E1 im' ic' md' := by
  obtain ⟨-, -, -, -, -, mf, a6, a7, -⟩ := h
  exact ⟨hc, hP, h68, h69, Or.inl h7, mf, h70.trans a6, a7, fun q => absurd (h7.symm.trans q) (by decide)⟩
theorem icm_lp {im : Nat → Int32} {a b m : Int32} : icm (va_up (va_up (va_up (va_up im 1 a) 2 b) 3 m) 7 0) = va_up (va_up (va_up (icm im) 4 a) 5 b) 6 m := by
  funext q
  by_cases h : q ≤ 8
  · match q, h with
    | 0, _ => rfl
    | 1, _ => rfl
    | 2, _ => rfl
    | 3, _ => rfl
    | 4, _ => rfl
    | 5, _ => rfl
    | 6, _ => rfl
    | 7, _ => rfl
    | 8, _ => rfl
  · unfold icm
    rw [if_neg h]
    simp only [va_up, if_neg (show ¬ q = 6 by omega), if_neg (show ¬ q = 5 by omega), if_neg (show ¬ q = 4 by omega), if_neg h]
theorem icm_wk {im : Nat → Int32} {w f : Int32} : icm (va_up (va_up im 4 w) 5 f) = va_up (va_up (icm im) 7 w) 8 f := by
  funext q
  by_cases h : q ≤ 8
  · match q, h with
    | 0, _ => rfl
    | 1, _ => rfl
    | 2, _ => rfl
    | 3, _ => rfl
    | 4, _ => rfl
    | 5, _ => rfl
    | 6, _ => rfl
    | 7, _ => rfl
    | 8, _ => rfl
  · unfold icm
    rw [if_neg h]
    simp only [va_up, if_neg (show ¬ q = 8 by omega), if_neg (show ¬ q = 7 by omega), if_neg h]
theorem icm_7 {im : Nat → Int32} {v : Int32} : icm (va_up im 7 v) = icm im := icm_of (fun q hq => by simp [va_up, hq])
end INV2
