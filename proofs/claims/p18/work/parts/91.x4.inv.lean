def OPg (gop : Nat → Int32) : Prop := ∀ j, j < 60 → 0 ≤ (gop j).toInt ∧ (gop j).toInt ≤ 11
/-! ===== the programs' lines too: the class's and the reference's are the same ===== -/
def C8x (G : Gl) (ad : Nat → Nat) (k : Nat) (ic md : Nat → Int32) (td kn : Int32) (fl gop gx gy : Nat → Int32) (E : Nat → va_E) : Prop := C8 G ad k ic md td kn fl E ∧ ∀ p, p < 6 → PgX G ad (9 + 6 * p) E (fl p) (fun j => gop (10 * p + j)) (fun j => gx (10 * p + j)) (fun j => gy (10 * p + j))
def R9x (G : Gl) (ad : Nat → Nat) (n k : Nat) (ic md : Nat → Int32) (td kn : Int32) (fl gop gx gy : Nat → Int32) (E : Nat → va_E) : Prop := JM G ad n ic md (bdM k td kn) PT E E ∧ E 85 = aI G 60 gop ∧ E 86 = aI G 60 gx ∧ E 87 = aI G 60 gy ∧ E 88 = aI G 6 fl ∧ LXg gop gx ∧ OPg gop
section INV4
variable {G : Gl} {ad ad1 : Nat → Nat} {n n1 k : Nat} {ic md ic' md' : Nat → Int32} {td kn td' kn' : Int32} {fl fl' gop gx gy gop' gx' gy' : Nat → Int32} {P : Nat → Prop} {E0 E E1 : Nat → va_E} {bd : Nat → Int × Int}
theorem R9x.r (h : R9x G ad n k ic md td kn fl gop gx gy E) : R9 G ad n k ic md td kn fl E := ⟨h.1, gop, gx, gy, h.2.1, h.2.2.1, h.2.2.2.1, h.2.2.2.2.1, h.2.2.2.2.2.1⟩
theorem R9x.hn (h : R9x G ad n k ic md td kn fl gop gx gy E) : 98 ≤ n := h.1.hn
theorem R9x.k5 (h : R9x G ad n k ic md td kn fl gop gx gy E) : k ≤ 5 := h.r.k5
theorem R9x.bl (h : R9x G ad n k ic md td kn fl gop gx gy E) : ∀ q, 0 ≤ (fl q).toInt ∧ (fl q).toInt ≤ 10 := h.r.bl
theorem R9x.ty (h : R9x G ad n k ic md td kn fl gop gx gy E) : ∀ j, 71 ≤ j → j < 98 → HasTy G ad (TyM j) (E j) := h.r.ty
theorem R9x.mr {im : Nat → Int32} (h : R9x G ad n k ic md td kn fl gop gx gy E) (hb : ∀ q, (bdM k td kn q).1 ≤ (im q).toInt ∧ (im q).toInt ≤ (bdM k td kn q).2) (hm : MR G ad E E1 im ic md) : JM G ad n ic md (bdM k td kn) PT E E1 := h.r.mr hb hm
theorem R9x.cls (h : R9x G ad n k ic md td kn fl gop gx gy E) (hE : ∀ j, 68 ≤ j → j < 98 → E1 j = E j) : R9x G ad n k ic md td kn fl gop gx gy E1 := by
  obtain ⟨h1, e1, e2, e3, e4, h5⟩ := h
  exact ⟨h1.keep hE, (hE _ (by decide) (by decide)).trans e1, (hE _ (by decide) (by decide)).trans e2, (hE _ (by decide) (by decide)).trans e3, (hE _ (by decide) (by decide)).trans e4, h5⟩
theorem R9x.step (h : R9x G ad n k ic md td kn fl gop gx gy E) (hJ : JM G ad n ic md (bdM k td kn) PT E E1) : R9x G ad n k ic md td kn fl gop gx gy E1 := by
  obtain ⟨-, e1, e2, e3, e4, h5⟩ := h
  have K : ∀ j, 85 ≤ j → j < 89 → E1 j = E j := fun j h1 h2 => hJ.2.1.1 j (by unfold PT; omega)
  exact ⟨⟨hJ.1, ⟨fun _ _ => rfl, hJ.2.1.2⟩, hJ.2.2⟩, (K _ (by decide) (by decide)).trans e1, (K _ (by decide) (by decide)).trans e2, (K _ (by decide) (by decide)).trans e3, (K _ (by decide) (by decide)).trans e4, h5⟩
theorem R9x.stepU (h : R9x G ad n k ic md td kn fl gop gx gy E) (hJ : JM G ad n ic md (bdM k td kn) PU E E1) : R9x G ad n k ic md td kn fl gop gx gy E1 := by
  obtain ⟨-, e1, e2, e3, e4, h5⟩ := h
  have K : ∀ j, 85 ≤ j → j < 89 → E1 j = E j := fun j h1 h2 => hJ.2.1.1 j (by unfold PU; omega)
  exact ⟨⟨hJ.1, ⟨fun _ _ => rfl, hJ.2.1.2⟩, hJ.2.2⟩, (K _ (by decide) (by decide)).trans e1, (K _ (by decide) (by decide)).trans e2, (K _ (by decide) (by decide)).trans e3, (K _ (by decide) (by decide)).trans e4, h5⟩
theorem R9x.mk {im' : Nat → Int32} (h : R9x G ad n k ic md td kn fl gop gx gy E) {k' : Nat} (hm : MCal G ad E1 im' ic' md') (hb : ∀ q, (bdM k' td' kn' q).1 ≤ (im' q).toInt ∧ (im' q).toInt ≤ (bdM k' td' kn' q).2) (hk : k' ≤ 5) (hT : ∀ j, 71 ≤ j → j < 98 → HasTy G ad (TyM j) (E1 j)) (hL : E1 85 = aI G 60 gop' ∧ E1 86 = aI G 60 gx' ∧ E1 87 = aI G 60 gy' ∧ E1 88 = aI G 6 fl' ∧ LXg gop' gx' ∧ OPg gop') : R9x G ad n k' ic' md' td' kn' fl' gop' gx' gy' E1 := ⟨(h.r.mk (fl' := fl') hm hb hk hT ⟨gop', gx', gy', hL.1, hL.2.1, hL.2.2.1, hL.2.2.2.1, hL.2.2.2.2.1⟩).1, hL⟩
theorem R9x.zone (h : R9x G ad n k ic md td kn fl gop gx gy E) (hn1 : n ≤ n1) (hA : ∀ j, j < n → ad1 j = ad j) (hE : ∀ j, 68 ≤ j → j < 98 → E1 j = E j) : R9x G ad1 n1 k ic md td kn fl gop gx gy E1 := by
  have h2 := (h.r.zone hn1 hA hE).1
  obtain ⟨-, e1, e2, e3, e4, h5⟩ := h
  exact ⟨h2, (hE _ (by decide) (by decide)).trans e1, (hE _ (by decide) (by decide)).trans e2, (hE _ (by decide) (by decide)).trans e3, (hE _ (by decide) (by decide)).trans e4, h5⟩
theorem C8x.step (h : C8x G ad k ic md td kn fl gop gx gy E) (hJ : J8 G ad k E E1) : C8x G ad k ic md td kn fl gop gx gy E1 := ⟨h.1.step hJ, fun p hp => (h.2 p hp).keep (fun j h1 h2 => hJ.low (by omega))⟩
theorem C8x.ref (h : C8x G ad k ic md td kn fl gop gx gy E) (hE : ∀ j, (j < 68 ∨ 98 ≤ j) → E1 j = E j) : C8x G ad k ic md td kn fl gop gx gy E1 := ⟨h.1.ref hE, fun p hp => (h.2 p hp).keep (fun j h1 h2 => hE j (by omega))⟩
theorem C8x.z6 (h : C8x G ad k ic md td kn fl gop gx gy E) : ∃ iz : Nat → Int32, E 6 = ob 7 (rfs ad [7]) iz ∧ (iz 1).toInt = (k : Int) := h.1.z6
theorem C8x.c45 (h : C8x G ad k ic md td kn fl gop gx gy E) : HasTy G ad (Ty8 k 45) (E 45) := h.1.c45
theorem C8x.low (h : C8x G ad k ic md td kn fl gop gx gy E) (hE : ∀ j, 6 ≤ j → j ≠ 45 → E1 j = E j) (h45 : HasTy G ad (Ty8 k 45) (E1 45)) (hC : CalW G ad E1 ic' md') (hO : ∃ io : Nat → Int32, E1 0 = ob 8 (rfs ad [1, 6, 8, 48, 45, 51]) io ∧ io 6 = td' ∧ io 7 = kn') : C8x G ad k ic' md' td' kn' fl gop gx gy E1 := ⟨h.1.low hE h45 hC hO, fun p hp => (h.2 p hp).keep (fun j h1 h2 => hE j (by omega) (by omega))⟩
theorem C8x.zone {iq iz2 : Nat → Int32} {fz : Nat → Option Nat} {v : Int32} (h : C8x G ad k ic md td kn fl gop gx gy E) (hk : k < 5) (hA : ∀ j, j < 98 + 9 * k → ad1 j = ad j) (hO : ∀ j, j < 98 + 9 * k → j ≠ 6 → j ≠ 7 → j ≠ 45 → E1 j = E j) (b45 : ∀ q, (bd4 q).1 ≤ (iq q).toInt ∧ (iq q).toInt ≤ (bd4 q).2) (g45 : E1 45 = ob 4 (rfs ad [46, 47]) (va_up iq 5 0)) (g6 : E1 6 = ob 7 (rfo ad1 [some 7, none]) iz2) (hz2 : (iz2 1).toInt = (k : Int) + 1) (hfz : ∀ i, i < k → fz i = some (ad (98 + 9 * i))) (g7 : E1 7 = aQ G 3 5 (va_up fz k (some (ad1 (98 + 9 * k))))) (hzn : ZNw G ad1 (98 + 9 * k) v E1) : C8x G ad1 (k + 1) ic md td kn fl gop gx gy E1 := by
  refine ⟨h.1.zone hk hA hO b45 g45 g6 hz2 hfz g7 hzn, fun p hp => ?_⟩
  obtain ⟨ip, po, px, py, tp, kd, h0, h6, a, c, h1, h2, h3, h4, h5, r⟩ := h.2 p hp
  refine ⟨ip, po, px, py, tp, kd, (hO _ (by omega) (by omega) (by omega) (by omega)).trans (h0.trans ?_), h6, a, c, (hO _ (by omega) (by omega) (by omega) (by omega)).trans h1, (hO _ (by omega) (by omega) (by omega) (by omega)).trans h2, (hO _ (by omega) (by omega) (by omega) (by omega)).trans h3, (hO _ (by omega) (by omega) (by omega) (by omega)).trans h4, (hO _ (by omega) (by omega) (by omega) (by omega)).trans h5, r⟩
  unfold rP
  rw [rfs_new (n := 98 + 9 * k) hA (fun c hc => by simp only [List.mem_cons, List.not_mem_nil, or_false] at hc; omega)]
/-- a program's lines told anew -/
theorem C8x.prog (h : C8x G ad k ic md td kn fl gop gx gy E) {p : Nat} (hp : p < 6) {z : Int32} {go gxx gyy : Nat → Int32} (hW : PgX G ad (9 + 6 * p) E1 z (fun j => go (10 * p + j)) (fun j => gxx (10 * p + j)) (fun j => gyy (10 * p + j))) (h1 : 0 ≤ z.toInt) (h2 : z.toInt ≤ 10) (hF : Fr6 (9 + 6 * p) E E1) (hb : ∀ q, 0 ≤ (fl q).toInt ∧ (fl q).toInt ≤ 10) (hg : ∀ q, q < 6 → q ≠ p → ∀ j, j < 10 → gop (10 * q + j) = go (10 * q + j) ∧ gx (10 * q + j) = gxx (10 * q + j) ∧ gy (10 * q + j) = gyy (10 * q + j)) : C8x G ad k ic md td kn (upd fl p z) go gxx gyy E1 := by
  refine ⟨h.1.prog hp hW.w h1 h2 hF, fun q hq => ?_⟩
  by_cases e : q = p
  · subst e; rw [upd_same]; exact hW
  · rw [upd_ne e]
    have := hb q
    exact ((h.2 q hq).keep (fun j a b => hF j (by omega))).congr (fun j hj => hg q hq e j (by omega))
def LNg (k : Nat) (fl g : Nat → Int32) (p op x y v : Int32) : Nat → Int32 := if okLI k p op x y ∧ (fl p.toInt.toNat).toInt < 10 then upd g (10 * p.toInt.toNat + (fl p.toInt.toNat).toInt.toNat) v else g
theorem OPg_up {gop : Nat → Int32} {p : Nat} {q : Int32} (h : OPg gop) (hq : 0 ≤ q.toInt ∧ q.toInt ≤ 11) : OPg (upd gop p q) := by
  intro j hj
  by_cases e : j = p
  · rw [e, upd_same]; exact hq
  · rw [upd_ne e]; exact h j hj
theorem upd_sh {g : Nat → Int32} {a s : Nat} {v : Int32} : (fun j => upd g (a + s) v (a + j)) = upd (fun j => g (a + j)) s v := by
  funext j
  by_cases h : j = s
  · subst h; rw [upd_same, upd_same]
  · rw [upd_ne h, upd_ne (by omega)]
end INV4
/-- the answers of mix and kind -/
def MIr (fl gop : Nat → Int32) (p : Int32) : Int := if okPg p then MXf (fun j => gop (10 * p.toInt.toNat + j)) (fl p.toInt.toNat).toInt.toNat else -1
def KIr (fl gop : Nat → Int32) (p : Int32) : Int := if okPg p then KDr (fun j => gop (10 * p.toInt.toNat + j)) (fl p.toInt.toNat).toInt.toNat else -1
theorem KD_no {ops : Nat → Int32} {n : Nat} (h : MIS ops n ≠ -1) : KDr ops n = -4 := by
  unfold KDr
  cases hr : RSf ops n with
  | none => rfl
  | some s =>
    simp only
    by_cases q : s.1 = 1
    · exact absurd (by rw [MIS_end hr, if_pos q]) h
    · rw [if_neg q]
theorem KD_of {ops K : Nat → Int32} {n : Nat} (h : RSf ops n = some (1, K)) : KDr ops n = (K 0).toInt := by
  unfold KDr
  rw [h]
  simp
theorem MX_iff {ops : Nat → Int32} {n : Nat} : MXf ops n = -6 ↔ MIS ops n = -1 := by
  unfold MXf
  by_cases h : MIS ops n = -1
  · rw [if_pos h]; exact ⟨fun _ => h, fun _ => rfl⟩
  · rw [if_neg h]
    have h2 : MIS ops n ≠ -6 := by
      unfold MIS
      cases RSf ops n with
      | none => have := FF_0 (ops := ops) n; simp only; omega
      | some s => simp only; split <;> omega
    exact ⟨fun q => absurd q h2, fun q => absurd q h⟩
theorem x_mixOf (l : Launch) (G : Gl) (ad : Nat → Nat) {n : Nat} {ic md : Nat → Int32} {bd : Nat → Int × Int} {E0 E : Nat → va_E} (hJ : JM G ad n ic md bd PR E0 E) {fo : Nat → Int32} {m : Nat} (hfo : E 89 = aI G 10 fo) (hm : m ≤ 10) (hf32 : (m : Int) ≤ (bd 32).1 ∧ (bd 32).2 ≤ (m : Int)) (hpo : ∀ j, j < m → 0 ≤ (fo j).toInt ∧ (fo j).toInt ≤ 11) : CtI l G yX9_mixOf cX9_mixOf 2 .int 3 65 n ad E [.ref (ad 68)] (fun r E' => r.toInt = MXf fo m ∧ (∀ K : Nat → Int32, RSf fo m = some (1, K) → ∃ K1 : Nat → Int32, E' 92 = aI G 8 K1 ∧ K1 0 = K 0) ∧ JM G ad n ic md (upB bd 35 (0, 8)) PR E0 E') := by
  have hn := hJ.hn
  obtain ⟨im, hM, hb⟩ := hJ.1
  obtain ⟨kd, h92, -⟩ := hJ.2.1.getA (b := 92) (by omega) rfl
  have h32 := hb 32
  have hm32 : (im 32).toInt.toNat = m := by omega
  refine (m_mixOf l G n ad E hn hM.2.2.1 h92 hfo (by omega) (by omega) (fun j hj => hpo j (by omega))).mono (fun r E' hp => ?_)
  rw [hm32] at hp
  obtain ⟨hr, im1, kd1, e68, hq, h1, h2, e92, hk, hf⟩ := hp
  have e : im1 = va_up im 35 (im1 35) := by
    funext q
    by_cases h : q = 35
    · subst h; simp [va_up]
    · simp [va_up, h, hq q h]
  refine ⟨hr, fun K hK => ⟨kd1, e92, hk K hK⟩, ⟨⟨im1, ?_, fun q => ?_⟩, ⟨fun j hj => (hf j (by unfold PR at hj; omega) (by unfold PR at hj; omega)).trans (hJ.2.1.1 j hj), fun j hj => ?_⟩, hn, upB7 (by decide) hJ.2.2.2.1, upB16 (by decide) hJ.2.2.2.2⟩⟩
  · rw [e] at e68 ⊢
    exact hM.up79 (by decide) e68 (fun j a b => hf j a (by omega))
  · unfold upB
    by_cases h : q = 35
    · rw [if_pos h, h]; exact ⟨h1, h2⟩
    · rw [if_neg h, hq q h]; exact hb q
  · by_cases q1 : j = 92
    · rw [q1]; exact HasTy.any e92
    · by_cases q2 : j = 68
      · rw [q2, TyM_out (by omega)]; exact HasTy.out
      · rw [hf j q2 q1]; exact hJ.2.1.2 j hj
