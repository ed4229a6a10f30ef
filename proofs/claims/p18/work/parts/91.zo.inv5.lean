/-! ===== the zones too: what both sides hold of them is the same ===== -/
def VZp (k : Nat) (ic rf rto ron rat rbe rtd rm fv : Nat → Int32) (td : Int32) : Prop := (∀ z, z < 5 → RZv ic rf rto ron rat rbe rtd rm fv z) ∧ (∀ z, k ≤ z → z < 5 → (rm z).toInt = 0) ∧ ∀ z r, z < 5 → r < (rm z).toInt.toNat → (rtd (8 * z + r)).toInt ≤ td.toInt
def ZMq (G : Gl) (ic md rf rto ron rat rbe rtd rm fv : Nat → Int32) (kn : Int) (E : Nat → va_E) : Prop := ZMr G E rf rto ron rat rbe rtd rm fv ∧ ZMs G E 5 (TTz ic md rf rto ron rat rbe rtd rm fv kn)
def C8z (G : Gl) (ad : Nat → Nat) (k : Nat) (ic md : Nat → Int32) (td kn : Int32) (fl gop gx gy rf rto ron rat rbe rtd rm fv : Nat → Int32) (E : Nat → va_E) : Prop := C8x G ad k ic md td kn fl gop gx gy E ∧ ZCl G ad k ic md rf rto ron rat rbe rtd rm fv E
def R9z (G : Gl) (ad : Nat → Nat) (n k : Nat) (ic md : Nat → Int32) (td kn : Int32) (fl gop gx gy rf rto ron rat rbe rtd rm fv : Nat → Int32) (E : Nat → va_E) : Prop := R9x G ad n k ic md td kn fl gop gx gy E ∧ ZMq G ic md rf rto ron rat rbe rtd rm fv kn.toInt E ∧ VZp k ic rf rto ron rat rbe rtd rm fv td
section INV5
variable {G : Gl} {ad ad1 : Nat → Nat} {n n1 k : Nat} {ic md ic' md' : Nat → Int32} {td kn td' kn' : Int32} {fl fl' gop gx gy gop' gx' gy' rf rto ron rat rbe rtd rm fv : Nat → Int32} {P : Nat → Prop} {E0 E E1 : Nat → va_E} {bd : Nat → Int × Int}
theorem ZMq.cg {kz : Int} : ZCm (ZMq G ic md rf rto ron rat rbe rtd rm fv kz) := fun _ _ h o => ⟨h.1.go (fun j h1 h2 => o j h1 (by omega)), h.2.go (fun j h1 h2 => o j (by omega) h2)⟩
theorem HasTy.bc {f : Nat → Int32} {N : Nat} {lo hi : Int} {x : va_E} (h : x = aI G N f) (hb : ∀ q, lo ≤ (f q).toInt ∧ (f q).toInt ≤ hi) : HasTy G ad (1, N, [], bdc lo hi) x := ⟨fun q => absurd (show (1 : Nat) = 0 from q) (by decide), fun _ => ⟨f, h, fun q => hb q⟩, fun q => absurd (show (1 : Nat) = 2 from q) (by decide), fun q => absurd (show (1 : Nat) = 3 from q) (by decide)⟩
theorem HasTy.zb {f : Nat → Int32} {N : Nat} {L : List Nat} {b : Nat → Int × Int} {x : va_E} (h : x = aZ G N f) (hb : ∀ q, f q = 0 ∨ f q = 1) : HasTy G ad (3, N, L, b) x := ⟨fun q => absurd (show (3 : Nat) = 0 from q) (by decide), fun q => absurd (show (3 : Nat) = 1 from q) (by decide), fun q => absurd (show (3 : Nat) = 2 from q) (by decide), fun _ => ⟨f, h, hb⟩⟩
/-- find keeps the shapes and what is found -/
theorem ZMq.fi (l : Launch) {kz : Int} (hP : CalP ic md) (hV : ∀ z, z < 5 → RZv ic rf rto ron rat rbe rtd rm fv z) : ZFi l G ad n ic md (ZMq G ic md rf rto ron rat rbe rtd rm fv kz) kz := by
  intro bd E0 E x hJ h18 hZ hx
  have hn := hJ.hn
  obtain ⟨im, hW, hb⟩ := hJ.1
  have hk : (im 18).toInt = kz := by have := hb 18; rw [h18] at this; have h1 : kz ≤ (im 18).toInt ∧ (im 18).toInt ≤ kz := this; omega
  obtain ⟨⟨h71, h72, h73, h74, h75, h76, h77, h78⟩, fz, sf, sp, sc, sw, so, h79, h80, h81, h82, h83, h84, hfz, hsb0, hfd⟩ := id hZ
  obtain ⟨zz, hz⟩ : ∃ q : Nat, x.toInt = (q : Int) := ⟨x.toInt.toNat, by omega⟩
  have hz5 : zz < 5 := by omega
  have hV0 := hV zz hz5
  have h8T : ∀ z, z < 5 → (TTz ic md rf rto ron rat rbe rtd rm fv kz z).1 ≤ 800 := fun z hz => (TTz_ok hP (hV z hz)).2
  refine (y_find l G n ad E hn hW h71 h72 h73 h74 h75 h76 h77 h78 h79 h80 h81 h82 h83 h84 hfz (zz := zz) (R := (rm zz).toInt.toNat) hz5 (by have := hV0.1; omega) (by have := hV0.1; omega) hV0.2.1 hV0.2.2 (LLz_bd hP hV0.2.1) x hz).mono (fun E' hq => ?_)
  have hfp := find_post (TT := TTz ic md rf rto ron rat rbe rtd rm fv kz) hz5 hW h79 h80 h81 h82 h83 h84 hfz hsb0 hfd h8T (show TTz ic md rf rto ron rat rbe rtd rm fv kz zz = _ by rw [← hk]; rfl) hq
  obtain ⟨im1, hi1, hW1, hS1, hO1⟩ := hfp.1
  refine ⟨⟨⟨im1, hW1, fun q => ?_⟩, ⟨fun j hj => (hO1 j ?_ ?_ ?_).trans (hJ.2.1.1 j hj), fun j hj => ?_⟩, hJ.2.2⟩, hZ.1.go (fun j h1 h2 => hO1 j (by omega) (by omega) (by omega)), hS1⟩
  · by_cases q7 : q = 7
    · rw [q7, hJ.2.2.2.1]
      have a5 := hW1.2.2.2.2.1
      rcases a5 with q | q <;> rw [q] <;> decide
    · rw [hi1 q q7]; exact hb q
  · unfold PR at hj; omega
  · unfold PR at hj; omega
  · unfold PR at hj; omega
  · by_cases c : j = 68 ∨ j = 70 ∨ (79 ≤ j ∧ j ≤ 84)
    · by_cases c2 : j < 71
      · rw [TyM_out (Or.inl c2)]; exact HasTy.out
      · obtain ⟨fz1, sf1, sp1, sc1, sw1, so1, a79, a80, a81, a82, a83, a84, bz, hsc, bd1⟩ := hS1
        rcases (show j = 79 ∨ j = 80 ∨ j = 81 ∨ j = 82 ∨ j = 83 ∨ j = 84 by omega) with e | e | e | e | e | e <;> subst e
        · exact HasTy.zb a79 bz
        · exact HasTy.any a80
        · exact HasTy.any a81
        · exact HasTy.bc a82 hsc
        · exact HasTy.any a83
        · exact HasTy.any a84
    · rw [hO1 j (by omega) (by omega) (by omega)]; exact hJ.2.1.2 j hj
theorem R9z.jy (l : Launch) (h : R9z G ad n k ic md td kn fl gop gx gy rf rto ron rat rbe rtd rm fv E) : JY l (ZMq G ic md rf rto ron rat rbe rtd rm fv kn.toInt) kn.toInt G ad n ic md (bdM k td kn) PT E E := by
  obtain ⟨im, hm, hb⟩ := h.1.1.1
  exact ⟨h.1.1, ⟨h.2.1, rfl⟩, ZMq.cg, ZMq.fi l hm.2.1 h.2.2.1⟩
theorem C8z.jz (l : Launch) (h : C8z G ad k ic md td kn fl gop gx gy rf rto ron rat rbe rtd rm fv E) (hV : VZp k ic rf rto ron rat rbe rtd rm fv td) : JZ l G ad k (ZCl G ad k ic md rf rto ron rat rbe rtd rm fv) (ZYc G ad k ic md rf rto ron rat rbe rtd rm fv) E E := by
  obtain ⟨ms, ld, ys, -, -, -, -, -, hP, -⟩ := h.1.1.2.1
  have hk5 := h.1.1.1.1
  exact ⟨h.1.1.1, h.2, ZCl.cg, ZCl.refr l hP (fun z hz => hV.1 z (by omega))⟩
theorem C8z.step {l : Launch} (h : C8z G ad k ic md td kn fl gop gx gy rf rto ron rat rbe rtd rm fv E) (hJ : JZ l G ad k (ZCl G ad k ic md rf rto ron rat rbe rtd rm fv) (ZYc G ad k ic md rf rto ron rat rbe rtd rm fv) E E1) : C8z G ad k ic md td kn fl gop gx gy rf rto ron rat rbe rtd rm fv E1 := ⟨h.1.step hJ.1, hJ.2.1⟩
theorem C8z.ref (h : C8z G ad k ic md td kn fl gop gx gy rf rto ron rat rbe rtd rm fv E) (hE : ∀ j, (j < 68 ∨ 98 ≤ j) → E1 j = E j) : C8z G ad k ic md td kn fl gop gx gy rf rto ron rat rbe rtd rm fv E1 := ⟨h.1.ref hE, ZCl.cg E E1 h.2 (fun j hj => hE j (by omega))⟩
theorem R9z.cls (h : R9z G ad n k ic md td kn fl gop gx gy rf rto ron rat rbe rtd rm fv E) (hE : ∀ j, 68 ≤ j → j < 98 → E1 j = E j) : R9z G ad n k ic md td kn fl gop gx gy rf rto ron rat rbe rtd rm fv E1 := ⟨h.1.cls hE, ZMq.cg E E1 h.2.1 (fun j h1 h2 => hE j (by omega) (by omega)), h.2.2⟩
theorem R9z.step {l : Launch} (h : R9z G ad n k ic md td kn fl gop gx gy rf rto ron rat rbe rtd rm fv E) (hJ : JY l (ZMq G ic md rf rto ron rat rbe rtd rm fv kn.toInt) kn.toInt G ad n ic md (bdM k td kn) PT E E1) : R9z G ad n k ic md td kn fl gop gx gy rf rto ron rat rbe rtd rm fv E1 := ⟨h.1.step hJ.1, hJ.2.1.1, h.2.2⟩
/-- a call that only asks -/
theorem R9z.fq {im : Nat → Int32} (h : R9z G ad n k ic md td kn fl gop gx gy rf rto ron rat rbe rtd rm fv E) (hb : ∀ q, (bdM k td kn q).1 ≤ (im q).toInt ∧ (im q).toInt ≤ (bdM k td kn q).2) (hF : FQ G ad E E1 im ic md 5 (TTz ic md rf rto ron rat rbe rtd rm fv kn.toInt)) : R9z G ad n k ic md td kn fl gop gx gy rf rto ron rat rbe rtd rm fv E1 := by
  obtain ⟨im1, hi1, hW1, hS1, hO1⟩ := hF
  have hn := h.1.hn
  refine ⟨h.1.mk (k' := k) hW1 (fun q => ?_) h.1.k5 (fun j h1 h2 => ?_) ⟨?_, ?_, ?_, ?_, h.1.2.2.2.2.2⟩, ⟨h.2.1.1.go (fun j h1 h2 => hO1 j (by omega) (by omega) (by omega)), hS1⟩, h.2.2⟩
  · by_cases q7 : q = 7
    · rw [q7]
      have a5 := hW1.2.2.2.2.1
      show (0 : Int) ≤ _ ∧ _ ≤ (1 : Int)
      rcases a5 with q | q <;> rw [q] <;> decide
    · rw [hi1 q q7]; exact hb q
  · by_cases c : 79 ≤ j ∧ j ≤ 84
    · obtain ⟨fz1, sf1, sp1, sc1, sw1, so1, a79, a80, a81, a82, a83, a84, bz, hsc, bd1⟩ := hS1
      rcases (show j = 79 ∨ j = 80 ∨ j = 81 ∨ j = 82 ∨ j = 83 ∨ j = 84 by omega) with e | e | e | e | e | e <;> subst e
      · exact HasTy.zb a79 bz
      · exact HasTy.any a80
      · exact HasTy.any a81
      · exact HasTy.bc a82 hsc
      · exact HasTy.any a83
      · exact HasTy.any a84
    · rw [hO1 j (by omega) (by omega) (by omega)]; exact h.1.ty j h1 h2
  · exact (hO1 85 (by decide) (by decide) (by decide)).trans h.1.2.1
  · exact (hO1 86 (by decide) (by decide) (by decide)).trans h.1.2.2.1
  · exact (hO1 87 (by decide) (by decide) (by decide)).trans h.1.2.2.2.1
  · exact (hO1 88 (by decide) (by decide) (by decide)).trans h.1.2.2.2.2.1
theorem al_zero {W : Nat → Nat → Int} {B : Nat → Int} : ∀ Y, alL W B 0 Y = [] := by
  intro Y
  induction Y with
  | zero => rfl
  | succ Y ih => show alL W B 0 Y ++ ylL W B Y 0 = []; rw [ih]; rfl
theorem TTz_zero {z : Nat} {kz : Int} (h : (rm z).toInt = 0) : TTz ic md rf rto ron rat rbe rtd rm fv kz z = TKl (fv z).toInt [] := by
  unfold TTz LLz
  rw [h]
  rfl
theorem RZv_zero {z : Nat} (h : (rm z).toInt = 0) (hv : -720 ≤ (fv z).toInt ∧ (fv z).toInt ≤ 720) : RZv ic rf rto ron rat rbe rtd rm fv z := by
  refine ⟨by omega, ⟨fun r hr => ?_, fun r s _ hs => ?_⟩, hv⟩
  · rw [h] at hr; exact absurd hr (Nat.not_lt_zero r)
  · rw [h] at hs; exact absurd hs (Nat.not_lt_zero s)
theorem ZCl.zero (hk : k = 0) : ZCl G ad k ic md rf rto ron rat rbe rtd rm fv E := fun i hi => absurd hi (by omega)
theorem aZ_inj {n : Nat} {f g : Nat → Int32} (h : aZ G n f = aZ G n g) : f = g := by
  injection h with h1
  injection h1 with _ h2
  injection h2 with _ h3
  injection h3
/-- nothing is found any more -/
theorem ZMs.clr {TT TT' : Nat → TST} {fz f2 : Nat → Int32} (h : ZMs G E 5 TT) (e79 : E 79 = aZ G 5 fz) (g79 : E1 79 = aZ G 5 f2) (z79 : ∀ q, q < 5 → f2 q = 0) (y79 : ∀ q, 5 ≤ q → f2 q = fz q) (o : ∀ j, 80 ≤ j → j ≤ 84 → E1 j = E j) : ZMs G E1 5 TT' := by
  obtain ⟨f0, sf, sp, sc, sw, so, a1, a2, a3, a4, a5, a6, hz, hs, hd⟩ := h
  have e : f0 = fz := aZ_inj (a1.symm.trans e79)
  subst e
  refine ⟨f2, sf, sp, sc, sw, so, g79, (o 80 (by decide) (by decide)).trans a2, (o 81 (by decide) (by decide)).trans a3, (o 82 (by decide) (by decide)).trans a4, (o 83 (by decide) (by decide)).trans a5, (o 84 (by decide) (by decide)).trans a6, fun q => ?_, hs, fun z hz1 => ?_⟩
  · by_cases c : q < 5
    · exact Or.inl (z79 q c)
    · rw [y79 q (by omega)]; exact hz q
  · by_cases c : z < 5
    · rw [z79 z c] at hz1; exact absurd hz1 (by decide)
    · rw [y79 z (by omega)] at hz1; exact absurd (hd z hz1).1 c
theorem ZMs.same {TT TT' : Nat → TST} (h : ZMs G E 5 TT) (he : ∀ z, z < 5 → TT' z = TT z) : ZMs G E 5 TT' := by
  obtain ⟨fz, sf, sp, sc, sw, so, a1, a2, a3, a4, a5, a6, hz, hs, hd⟩ := h
  exact ⟨fz, sf, sp, sc, sw, so, a1, a2, a3, a4, a5, a6, hz, hs, fun z q => ⟨(hd z q).1, by rw [he z (hd z q).1]; exact (hd z q).2⟩⟩
theorem C8z.low (h : C8z G ad k ic md td kn fl gop gx gy rf rto ron rat rbe rtd rm fv E) (hE : ∀ j, 6 ≤ j → j ≠ 45 → E1 j = E j) (h45 : HasTy G ad (Ty8 k 45) (E1 45)) (hC : CalW G ad E1 ic' md') (hO : ∃ io : Nat → Int32, E1 0 = ob 8 (rfs ad [1, 6, 8, 48, 45, 51]) io ∧ io 6 = td' ∧ io 7 = kn') (hZ : ZCl G ad k ic' md' rf rto ron rat rbe rtd rm fv E1) : C8z G ad k ic' md' td' kn' fl gop gx gy rf rto ron rat rbe rtd rm fv E1 := ⟨h.1.low hE h45 hC hO, hZ⟩
theorem C8z.prog (h : C8z G ad k ic md td kn fl gop gx gy rf rto ron rat rbe rtd rm fv E) {p : Nat} (hp : p < 6) {z : Int32} {go gxx gyy : Nat → Int32} (hW : PgX G ad (9 + 6 * p) E1 z (fun j => go (10 * p + j)) (fun j => gxx (10 * p + j)) (fun j => gyy (10 * p + j))) (h1 : 0 ≤ z.toInt) (h2 : z.toInt ≤ 10) (hF : Fr6 (9 + 6 * p) E E1) (hb : ∀ q, 0 ≤ (fl q).toInt ∧ (fl q).toInt ≤ 10) (hg : ∀ q, q < 6 → q ≠ p → ∀ j, j < 10 → gop (10 * q + j) = go (10 * q + j) ∧ gx (10 * q + j) = gxx (10 * q + j) ∧ gy (10 * q + j) = gyy (10 * q + j)) : C8z G ad k ic md td kn (upd fl p z) go gxx gyy rf rto ron rat rbe rtd rm fv E1 := ⟨h.1.prog hp hW h1 h2 hF hb hg, ZCl.cg E E1 h.2 (fun j hj => hF j (by omega))⟩
/-- a new zone -/
theorem ZN1.anew {b i : Nat} {v : Int32} (hw : ZNw G ad b v E) (hm : (rm i).toInt = 0) : ZN1 G ad b i ic md rf rto ron rat rbe rtd rm (upd fv i v) E := by
  obtain ⟨g0, g1, g2, ⟨f, g3, hf⟩, g4, g5, g6, g7, g8⟩ := hw
  refine ⟨ip0, fun _ => 0, fun _ => 0, f, fun _ => 0, fun _ => 0, fun _ => 0, upd (fun _ => 0) 0 60000000, upd (fun _ => 0) 0 v, 0, 0, g0.trans rfl, g1, g2, g3, g4, g5, g6, g7, g8, hm, rfl, rfl, Nat.le_refl 0, rfl, by rw [upd_same, upd_same], fun r hr => absurd hr (Nat.not_lt_zero r), fun r y h1 h2 => ?_, ?_, fun j hj => ?_⟩
  · rw [hf (100 * r + y) (by omega)]
    unfold WZ
    rw [if_neg (fun q => absurd q.1 (Nat.not_lt_zero r))]
    decide
  · rw [al_zero]
    exact ZR_0 rfl rfl (by rw [upd_same, upd_same])
  · have hj0 : j = 0 := by have : (j : Int) ≤ 0 := hj; omega
    subst hj0
    rw [upd_same, if_neg (show ¬ (((0 : Nat) : Int) < (ip0 10).toInt) by decide)]
    decide
theorem ZN1.grow {b i m N : Nat} {v : Int32} (h : ZN1 G ad b i ic md rf rto ron rat rbe rtd rm fv E) (hi : i ≠ m) (hA : ∀ j, j < N → ad1 j = ad j) (hb : b + 9 ≤ N) (o : ∀ j, b ≤ j → j < b + 9 → E1 j = E j) : ZN1 G ad1 b i ic md rf rto ron rat rbe rtd rm (upd fv m v) E1 := by
  obtain ⟨ib, to, ro, rw1, yw, yo, ss, se, os, rt, R, h0, h1, h2, h3, h4, h5, h6, h7, h8, a1, a2, a3, a4, a5, a6, a7, a8, a9, a10⟩ := h
  have e : ob 6 (rfs ad [b + 1, b + 2, b + 3, b + 4, b + 5, b + 6, b + 7, b + 8]) ib = ob 6 (rfs ad1 [b + 1, b + 2, b + 3, b + 4, b + 5, b + 6, b + 7, b + 8]) ib := by rw [rfs_new hA (fun c hc => by simp only [List.mem_cons, List.not_mem_nil, or_false] at hc; omega)]
  refine ⟨ib, to, ro, rw1, yw, yo, ss, se, os, rt, R, ((o _ (by omega) (by omega)).trans h0).trans e, (o _ (by omega) (by omega)).trans h1, (o _ (by omega) (by omega)).trans h2, (o _ (by omega) (by omega)).trans h3, (o _ (by omega) (by omega)).trans h4, (o _ (by omega) (by omega)).trans h5, (o _ (by omega) (by omega)).trans h6, (o _ (by omega) (by omega)).trans h7, (o _ (by omega) (by omega)).trans h8, a1, a2, a3, a4, a5, ?_, a7, a8, ?_, a10⟩
  · rw [upd_ne hi]; exact a6
  · rw [upd_ne hi]; exact a9
theorem R9z.keepz (h : R9z G ad n k ic md td kn fl gop gx gy rf rto ron rat rbe rtd rm fv E) (o : ∀ j, 71 ≤ j → j ≤ 84 → E1 j = E j) : ZMq G ic md rf rto ron rat rbe rtd rm fv kn.toInt E1 ∧ VZp k ic rf rto ron rat rbe rtd rm fv td := ⟨ZMq.cg E E1 h.2.1 o, h.2.2⟩
theorem R9z.mrz {im : Nat → Int32} (h : R9z G ad n k ic md td kn fl gop gx gy rf rto ron rat rbe rtd rm fv E) (hm : MR G ad E E1 im ic md) : ZMq G ic md rf rto ron rat rbe rtd rm fv kn.toInt E1 ∧ VZp k ic rf rto ron rat rbe rtd rm fv td := by
  obtain ⟨im', -, -, a3⟩ := hm
  exact h.keepz (fun j h1 h2 => a3 j (by omega) (by omega))
theorem R9z.calz (h : R9z G ad n k ic md td kn fl gop gx gy rf rto ron rat rbe rtd rm fv E) (hk : k = 0) (o : ∀ j, 71 ≤ j → j ≤ 84 → E1 j = E j) : ZMq G ic' md' rf rto ron rat rbe rtd rm fv kn.toInt E1 ∧ VZp k ic' rf rto ron rat rbe rtd rm fv td := by
  have hz : ∀ z, z < 5 → (rm z).toInt = 0 := fun z hz => h.2.2.2.1 z (by omega) hz
  exact ⟨⟨h.2.1.1.go (fun j h1 h2 => o j h1 (by omega)), (h.2.1.2.go (fun j h1 h2 => o j (by omega) h2)).same (fun z hz5 => by rw [TTz_zero (hz z hz5), TTz_zero (hz z hz5)])⟩, fun z h5 => RZv_zero (hz z h5) (h.2.2.1 z h5).2.2, h.2.2.2.1, h.2.2.2.2⟩
theorem R9z.todz (h : R9z G ad n k ic md td kn fl gop gx gy rf rto ron rat rbe rtd rm fv E) (htd : td.toInt ≤ td'.toInt) (o : ∀ j, 71 ≤ j → j ≤ 84 → E1 j = E j) : ZMq G ic md rf rto ron rat rbe rtd rm fv kn.toInt E1 ∧ VZp k ic rf rto ron rat rbe rtd rm fv td' := ⟨ZMq.cg E E1 h.2.1 o, h.2.2.1, h.2.2.2.1, fun z r h1 h2 => Int.le_trans (h.2.2.2.2 z r h1 h2) htd⟩
theorem R9z.knz {fz f2 : Nat → Int32} {kz : Int} (h : R9z G ad n k ic md td kn fl gop gx gy rf rto ron rat rbe rtd rm fv E) (e79 : E 79 = aZ G 5 fz) (g79 : E1 79 = aZ G 5 f2) (z79 : ∀ q, q < 5 → f2 q = 0) (y79 : ∀ q, 5 ≤ q → f2 q = fz q) (o : ∀ j, 71 ≤ j → j ≤ 84 → j ≠ 79 → E1 j = E j) : ZMq G ic md rf rto ron rat rbe rtd rm fv kz E1 ∧ VZp k ic rf rto ron rat rbe rtd rm fv td := ⟨⟨h.2.1.1.go (fun j h1 h2 => o j h1 (by omega) (by omega)), h.2.1.2.clr e79 g79 z79 y79 (fun j h1 h2 => o j (by omega) h2 (by omega))⟩, h.2.2⟩
theorem R9z.zonz {fz f2 : Nat → Int32} {v : Int32} (h : R9z G ad n k ic md td kn fl gop gx gy rf rto ron rat rbe rtd rm fv E) (hk : k < 5) (hv : -720 ≤ v.toInt ∧ v.toInt ≤ 720) (g71 : E1 71 = aI G 5 (upd fv k v)) (e79 : E 79 = aZ G 5 fz) (g79 : E1 79 = aZ G 5 f2) (z79 : ∀ q, q < 5 → f2 q = 0) (y79 : ∀ q, 5 ≤ q → f2 q = fz q) (o : ∀ j, 72 ≤ j → j ≤ 84 → j ≠ 79 → E1 j = E j) : ZMq G ic md rf rto ron rat rbe rtd rm (upd fv k v) kn.toInt E1 ∧ VZp (k + 1) ic rf rto ron rat rbe rtd rm (upd fv k v) td := by
  obtain ⟨⟨-, b2, b3, b4, b5, b6, b7, b8⟩, hs⟩ := h.2.1
  obtain ⟨v1, v2, v3⟩ := h.2.2
  have hm := v2 k (Nat.le_refl k) hk
  refine ⟨⟨⟨g71, (o 72 (by decide) (by decide) (by decide)).trans b2, (o 73 (by decide) (by decide) (by decide)).trans b3, (o 74 (by decide) (by decide) (by decide)).trans b4, (o 75 (by decide) (by decide) (by decide)).trans b5, (o 76 (by decide) (by decide) (by decide)).trans b6, (o 77 (by decide) (by decide) (by decide)).trans b7, (o 78 (by decide) (by decide) (by decide)).trans b8⟩, hs.clr e79 g79 z79 y79 (fun j h1 h2 => o j (by omega) h2 (by omega))⟩, fun z h5 => ?_, fun z h1 h5 => v2 z (by omega) h5, v3⟩
  by_cases c : z = k
  · subst c
    exact RZv_zero hm (by rw [upd_same]; exact hv)
  · have q := v1 z h5
    exact ⟨q.1, q.2.1, by rw [upd_ne c]; exact q.2.2⟩
theorem RVs_ne {zz z R Q : Nat} {f t o a v d : Int32} (h : RVs ic rf rto ron rat rbe rtd z Q) (hz : z ≠ zz) (hR : R < 8) (hQ : Q ≤ 8) : RVs ic (upd rf (8 * zz + R) f) (upd rto (8 * zz + R) t) (upd ron (8 * zz + R) o) (upd rat (8 * zz + R) a) (upd rbe (8 * zz + R) v) (upd rtd (8 * zz + R) d) z Q := by
  refine ⟨fun r hr => ?_, fun r s h1 h2 => ?_⟩
  · rw [upd_ne (by omega), upd_ne (by omega), upd_ne (by omega), upd_ne (by omega), upd_ne (by omega)]; exact h.1 r hr
  · rw [upd_ne (by omega), upd_ne (by omega)]; exact h.2 r s h1 h2
theorem RVs_new {zz R : Nat} {f t o a v d : Int32} (h : RVs ic rf rto ron rat rbe rtd zz R) (hp : RVp ic f.toInt t.toInt o.toInt a.toInt v.toInt) (hd : ∀ r, r < R → (rtd (8 * zz + r)).toInt ≤ d.toInt) : RVs ic (upd rf (8 * zz + R) f) (upd rto (8 * zz + R) t) (upd ron (8 * zz + R) o) (upd rat (8 * zz + R) a) (upd rbe (8 * zz + R) v) (upd rtd (8 * zz + R) d) zz (R + 1) := by
  refine ⟨fun r hr => ?_, fun r s h1 h2 => ?_⟩
  · by_cases c : r = R
    · rw [c, upd_same, upd_same, upd_same, upd_same, upd_same]; exact hp
    · rw [upd_ne (by omega), upd_ne (by omega), upd_ne (by omega), upd_ne (by omega), upd_ne (by omega)]; exact h.1 r (by omega)
  · by_cases c : s = R
    · rw [c, upd_same]
      by_cases c2 : r = R
      · rw [c2, upd_same]; exact Int.le_refl _
      · rw [upd_ne (by omega)]; exact hd r (by omega)
    · rw [upd_ne (by omega), upd_ne (by omega)]; exact h.2 r s h1 (by omega)
theorem VZp.rule {zz R : Nat} {y f t o a v n1 : Int32} (h : VZp k ic rf rto ron rat rbe rtd rm fv td) (hk : zz < k) (hk5 : k ≤ 5) (hR : (rm zz).toInt = (R : Int)) (hR8 : R < 8) (hok : okRU k (ic 7).toInt (zz : Int) y.toInt o.toInt a.toInt v.toInt) (hf : f.toInt = y.toInt / 100) (ht : t.toInt = y.toInt % 100) (hn : n1.toInt = (R : Int) + 1) : VZp k ic (upd rf (8 * zz + R) f) (upd rto (8 * zz + R) t) (upd ron (8 * zz + R) o) (upd rat (8 * zz + R) a) (upd rbe (8 * zz + R) v) (upd rtd (8 * zz + R) td) (upd rm zz n1) fv td := by
  obtain ⟨v1, v2, v3⟩ := h
  have eN : (rm zz).toInt.toNat = R := by omega
  have eM : n1.toInt.toNat = R + 1 := by omega
  unfold okRU at hok
  refine ⟨fun z h5 => ?_, fun z h1 h5 => ?_, fun z r h5 hr => ?_⟩
  · by_cases c : z = zz
    · subst c
      have q := v1 z h5
      refine ⟨by rw [upd_same]; omega, ?_, q.2.2⟩
      rw [upd_same, eM]
      have q2 := q.2.1
      rw [eN] at q2
      exact RVs_new q2 (by unfold RVp; omega) (fun r hr => v3 z r h5 (by omega))
    · have q := v1 z h5
      refine ⟨by rw [upd_ne c]; exact q.1, ?_, q.2.2⟩
      rw [upd_ne c]
      exact RVs_ne q.2.1 c hR8 (by have := q.1; omega)
  · rw [upd_ne (by omega)]; exact v2 z h1 h5
  · by_cases c : z = zz
    · subst c
      rw [upd_same, eM] at hr
      by_cases c2 : r = R
      · rw [c2, upd_same]; exact Int.le_refl _
      · rw [upd_ne (by omega)]; exact v3 z r h5 (by omega)
    · rw [upd_ne c] at hr
      have q := (v1 z h5).1
      rw [upd_ne (by omega)]; exact v3 z r h5 hr
theorem FQ.rest {im : Nat → Int32} {kk : Nat} {TT : Nat → TST} (h : FQ G ad E E1 im ic md kk TT) : ∀ j, (j < 68 ∨ 98 ≤ j) → E1 j = E j := by
  obtain ⟨im1, -, -, -, o⟩ := h
  exact fun j hj => o j (by omega) (by omega) (by omega)
theorem ZCl.grow {v : Int32} (h : ZCl G ad k ic md rf rto ron rat rbe rtd rm fv E) (hk : k < 5) (hA : ∀ j, j < 98 + 9 * k → ad1 j = ad j) (hO : ∀ j, j < 98 + 9 * k → j ≠ 6 → j ≠ 7 → j ≠ 45 → E1 j = E j) (hzn : ZNw G ad1 (98 + 9 * k) v E1) (hm : (rm k).toInt = 0) : ZCl G ad1 (k + 1) ic md rf rto ron rat rbe rtd rm (upd fv k v) E1 := by
  intro i hi
  by_cases c : i = k
  · subst c; exact ZN1.anew hzn hm
  · exact (h i (by omega)).grow c hA (by omega) (fun j h1 h2 => hO j (by omega) (by omega) (by omega) (by omega))
theorem R9z.zone (h : R9z G ad n k ic md td kn fl gop gx gy rf rto ron rat rbe rtd rm fv E) (hn1 : n ≤ n1) (hA : ∀ j, j < n → ad1 j = ad j) (hE : ∀ j, 68 ≤ j → j < 98 → E1 j = E j) : R9z G ad1 n1 k ic md td kn fl gop gx gy rf rto ron rat rbe rtd rm fv E1 := ⟨h.1.zone hn1 hA hE, ZMq.cg E E1 h.2.1 (fun j h1 h2 => hE j (by omega) (by omega)), h.2.2⟩
end INV5
def FVf (k : Nat) (fv : Nat → Int32) (v : Int32) : Nat → Int32 := if okZN v ∧ k < 5 then upd fv k v else fv
