/-! ===== the class between calls, with the odd moments that it holds ===== -/
def ZCo (G : Gl) (ad : Nat → Nat) (k : Nat) (ic md rf rto ron rat rbe rtd rm fv : Nat → Int32) (kz : Int) (E : Nat → va_E) : Prop := ZCl G ad k ic md rf rto ron rat rbe rtd rm fv E ∧ OdC G ad k ic md (TTz ic md rf rto ron rat rbe rtd rm fv kz) E
def C8o (G : Gl) (ad : Nat → Nat) (k : Nat) (ic md : Nat → Int32) (td kn : Int32) (fl gop gx gy rf rto ron rat rbe rtd rm fv : Nat → Int32) (E : Nat → va_E) : Prop := C8x G ad k ic md td kn fl gop gx gy E ∧ ZCo G ad k ic md rf rto ron rat rbe rtd rm fv kn.toInt E
section INV8
variable {G : Gl} {ad ad1 : Nat → Nat} {n n1 k : Nat} {ic md ic' md' : Nat → Int32} {td kn td' kn' : Int32} {fl fl' gop gx gy gop' gx' gy' rf rto ron rat rbe rtd rm fv : Nat → Int32} {kz kz' : Int} {E0 E E1 : Nat → va_E}
theorem C8o.z (h : C8o G ad k ic md td kn fl gop gx gy rf rto ron rat rbe rtd rm fv E) : C8z G ad k ic md td kn fl gop gx gy rf rto ron rat rbe rtd rm fv E := ⟨h.1, h.2.1⟩
theorem ZCo.cg : ZCg (ZCo G ad k ic md rf rto ron rat rbe rtd rm fv kz) := fun E E1 h o => ⟨h.1.up (fun j hj => o j (by omega)), h.2.go (fun j h1 h2 => o j (by omega))⟩
theorem ZCo.refr (l : Launch) (hP : CalP ic md) (hV : ∀ z, z < k → RZv ic rf rto ron rat rbe rtd rm fv z) : ZRf l G ad k (ZCo G ad k ic md rf rto ron rat rbe rtd rm fv kz) (ZYc G ad k ic md rf rto ron rat rbe rtd rm fv) := by
  intro E0 E b x hb hJ hZ
  obtain ⟨i, hi, rfl⟩ := hb
  refine (ZCl.refr1 l hP hV hi hZ.1 x).mono (fun E' hp => ?_)
  have hO := hZ.2.go (E1 := E') (fun j h1 h2 => hp.2.2 j (by omega))
  exact ⟨SOd.j8 (kz := kz) ⟨fun j h0 _ _ _ => hp.2.2 j (by omega), hp.1, hO⟩ hJ hP hV, ⟨hp.1, hO⟩, fun i2 hi2 hb2 => by
    have e : i2 = i := by omega
    subst e
    exact hp.2.1⟩
theorem ZCo.zero (hk : k = 0) (h : OdC G ad k ic md (TTz ic md rf rto ron rat rbe rtd rm fv kz) E) (o : ∀ j, 45 ≤ j → j ≤ 47 → E1 j = E j) : ZCo G ad k ic' md' rf rto ron rat rbe rtd rm fv kz' E1 := ⟨ZCl.zero hk, h.zero hk o⟩
theorem C8o.jz (l : Launch) (h : C8o G ad k ic md td kn fl gop gx gy rf rto ron rat rbe rtd rm fv E) (hV : VZp k ic rf rto ron rat rbe rtd rm fv td) : JZ l G ad k (ZCo G ad k ic md rf rto ron rat rbe rtd rm fv kn.toInt) (ZYc G ad k ic md rf rto ron rat rbe rtd rm fv) E E := by
  obtain ⟨ms, ld, ys, -, -, -, -, -, hP, -⟩ := h.1.1.2.1
  have hk5 := h.1.1.1.1
  exact ⟨h.1.1.1, h.2, ZCo.cg, ZCo.refr l hP (fun z hz => hV.1 z (by omega))⟩
theorem C8o.step {l : Launch} (h : C8o G ad k ic md td kn fl gop gx gy rf rto ron rat rbe rtd rm fv E) (hJ : JZ l G ad k (ZCo G ad k ic md rf rto ron rat rbe rtd rm fv kn.toInt) (ZYc G ad k ic md rf rto ron rat rbe rtd rm fv) E E1) : C8o G ad k ic md td kn fl gop gx gy rf rto ron rat rbe rtd rm fv E1 := ⟨h.1.step hJ.1, hJ.2.1⟩
theorem C8o.sod (h : C8o G ad k ic md td kn fl gop gx gy rf rto ron rat rbe rtd rm fv E) (hV : VZp k ic rf rto ron rat rbe rtd rm fv td) (s : SOd G ad k ic md rf rto ron rat rbe rtd rm fv kn.toInt E E1) : C8o G ad k ic md td kn fl gop gx gy rf rto ron rat rbe rtd rm fv E1 := by
  obtain ⟨ms, ld, ys, -, -, -, -, -, hP, -⟩ := h.1.1.2.1
  have hk5 := h.1.1.1.1
  exact ⟨h.1.step (s.j8 h.1.1.1 hP (fun z hz => hV.1 z (by omega))), s.2⟩
theorem C8o.ref (h : C8o G ad k ic md td kn fl gop gx gy rf rto ron rat rbe rtd rm fv E) (hE : ∀ j, (j < 68 ∨ 98 ≤ j) → E1 j = E j) : C8o G ad k ic md td kn fl gop gx gy rf rto ron rat rbe rtd rm fv E1 := ⟨h.1.ref hE, ZCo.cg E E1 h.2 (fun j hj => hE j (by omega))⟩
theorem C8o.low (h : C8o G ad k ic md td kn fl gop gx gy rf rto ron rat rbe rtd rm fv E) (hE : ∀ j, 6 ≤ j → j ≠ 45 → E1 j = E j) (h45 : HasTy G ad (Ty8 k 45) (E1 45)) (hC : CalW G ad E1 ic' md') (hO : ∃ io : Nat → Int32, E1 0 = ob 8 (rfs ad [1, 6, 8, 48, 45, 51]) io ∧ io 6 = td' ∧ io 7 = kn') (hZ : ZCo G ad k ic' md' rf rto ron rat rbe rtd rm fv kn'.toInt E1) : C8o G ad k ic' md' td' kn' fl gop gx gy rf rto ron rat rbe rtd rm fv E1 := ⟨h.1.low hE h45 hC hO, hZ⟩
theorem C8o.prog (h : C8o G ad k ic md td kn fl gop gx gy rf rto ron rat rbe rtd rm fv E) {p : Nat} (hp : p < 6) {z : Int32} {go gxx gyy : Nat → Int32} (hW : PgX G ad (9 + 6 * p) E1 z (fun j => go (10 * p + j)) (fun j => gxx (10 * p + j)) (fun j => gyy (10 * p + j))) (h1 : 0 ≤ z.toInt) (h2 : z.toInt ≤ 10) (hF : Fr6 (9 + 6 * p) E E1) (hb : ∀ q, 0 ≤ (fl q).toInt ∧ (fl q).toInt ≤ 10) (hg : ∀ q, q < 6 → q ≠ p → ∀ j, j < 10 → gop (10 * q + j) = go (10 * q + j) ∧ gx (10 * q + j) = gxx (10 * q + j) ∧ gy (10 * q + j) = gyy (10 * q + j)) : C8o G ad k ic md td kn (upd fl p z) go gxx gyy rf rto ron rat rbe rtd rm fv E1 := ⟨h.1.prog hp hW h1 h2 hF hb hg, ZCo.cg E E1 h.2 (fun j hj => hF j (by omega))⟩
theorem C8o.rule {i R : Nat} {f t o a v n1 : Int32} {iq : Nat → Int32} (h : C8o G ad k ic md td kn fl gop gx gy rf rto ron rat rbe rtd rm fv E) (hk : i < k) (hR8 : R < 8) (hV : VZp k ic rf rto ron rat rbe rtd rm fv td) (hVn : VZp k ic (upd rf (8 * i + R) f) (upd rto (8 * i + R) t) (upd ron (8 * i + R) o) (upd rat (8 * i + R) a) (upd rbe (8 * i + R) v) (upd rtd (8 * i + R) td) (upd rm i n1) fv td) (hN : ZN1 G ad (98 + 9 * i) i ic md (upd rf (8 * i + R) f) (upd rto (8 * i + R) t) (upd ron (8 * i + R) o) (upd rat (8 * i + R) a) (upd rbe (8 * i + R) v) (upd rtd (8 * i + R) td) (upd rm i n1) fv E1) (b45 : ∀ q, (bd4 q).1 ≤ (iq q).toInt ∧ (iq q).toInt ≤ (bd4 q).2) (e45 : E 45 = ob 4 (rfs ad [46, 47]) iq) (g45 : E1 45 = ob 4 (rfs ad [46, 47]) (va_up iq 5 0)) (hf : ∀ j, j ≠ 45 → (j < 98 + 9 * i ∨ 98 + 9 * i + 9 ≤ j) → E1 j = E j) : C8o G ad k ic md td kn fl gop gx gy (upd rf (8 * i + R) f) (upd rto (8 * i + R) t) (upd ron (8 * i + R) o) (upd rat (8 * i + R) a) (upd rbe (8 * i + R) v) (upd rtd (8 * i + R) td) (upd rm i n1) fv E1 := by
  have q := h.z.rule hk hR8 hV hVn hN b45 g45 hf
  exact ⟨q.1, q.2, h.2.2.off e45 g45 (hf 46 (by decide) (by omega)) (hf 47 (by decide) (by omega))⟩
theorem C8o.zone {iq iz2 : Nat → Int32} {fz : Nat → Option Nat} {v : Int32} (h : C8o G ad k ic md td kn fl gop gx gy rf rto ron rat rbe rtd rm fv E) (hk : k < 5) (hA : ∀ j, j < 98 + 9 * k → ad1 j = ad j) (hO : ∀ j, j < 98 + 9 * k → j ≠ 6 → j ≠ 7 → j ≠ 45 → E1 j = E j) (b45 : ∀ q, (bd4 q).1 ≤ (iq q).toInt ∧ (iq q).toInt ≤ (bd4 q).2) (e45 : E 45 = ob 4 (rfs ad [46, 47]) iq) (g45 : E1 45 = ob 4 (rfs ad [46, 47]) (va_up iq 5 0)) (g6 : E1 6 = ob 7 (rfo ad1 [some 7, none]) iz2) (hz2 : (iz2 1).toInt = (k : Int) + 1) (hfz : ∀ i, i < k → fz i = some (ad (98 + 9 * i))) (g7 : E1 7 = aQ G 3 5 (va_up fz k (some (ad1 (98 + 9 * k))))) (hzn : ZNw G ad1 (98 + 9 * k) v E1) (hm : (rm k).toInt = 0) : C8o G ad1 (k + 1) ic md td kn fl gop gx gy rf rto ron rat rbe rtd rm (upd fv k v) E1 := by
  have e : ob 4 (rfs ad [46, 47]) (va_up iq 5 0) = ob 4 (rfs ad1 [46, 47]) (va_up iq 5 0) := by rw [rfs_new hA (fun c hc => by simp only [List.mem_cons, List.not_mem_nil, or_false] at hc; omega)]
  exact ⟨h.1.zone hk hA hO b45 g45 g6 hz2 hfz g7 hzn, h.2.1.grow hk hA hO hzn hm, h.2.2.off e45 (g45.trans e) (hO 46 (by omega) (by decide) (by decide) (by decide)) (hO 47 (by omega) (by decide) (by decide) (by decide))⟩
theorem C8o.kcl (h8 : C8o G ad k ic md td kn fl gop gx gy rf rto ron rat rbe rtd rm fv E) (h9 : R9z G ad n k ic md td kn fl gop gx gy rf rto ron rat rbe rtd rm fv E) : KCl G ad k ic md kn fl gop gx gy rf rto ron rat rbe rtd rm fv E := h8.z.kcl h9
end INV8
