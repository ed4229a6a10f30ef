/-! ===== a rule told to both sides ===== -/
def RUr (k : Nat) (ic rm : Nat → Int32) (z y o a v : Int32) : Int := if okRU k (ic 7).toInt z.toInt y.toInt o.toInt a.toInt v.toInt then (if (rm z.toInt.toNat).toInt < 8 then (rm z.toInt.toNat).toInt + 1 else -2) else -1
def RUu (k : Nat) (ic rm : Nat → Int32) (z y o a v : Int32) (g : Nat → Int32) (x : Int32) : Nat → Int32 := if okRU k (ic 7).toInt z.toInt y.toInt o.toInt a.toInt v.toInt ∧ (rm z.toInt.toNat).toInt < 8 then upd g (8 * z.toInt.toNat + (rm z.toInt.toNat).toInt.toNat) x else g
def RUm (k : Nat) (ic rm : Nat → Int32) (z y o a v : Int32) : Nat → Int32 := if okRU k (ic 7).toInt z.toInt y.toInt o.toInt a.toInt v.toInt ∧ (rm z.toInt.toNat).toInt < 8 then upd rm z.toInt.toNat (rm z.toInt.toNat + 1) else rm
theorem upd_bd {g : Nat → Int32} {p : Nat} {x : Int32} {lo hi : Int} (h : ∀ q, lo ≤ (g q).toInt ∧ (g q).toInt ≤ hi) (hx : lo ≤ x.toInt ∧ x.toInt ≤ hi) : ∀ q, lo ≤ (upd g p x q).toInt ∧ (upd g p x q).toInt ≤ hi := by
  intro q
  by_cases c : q = p
  · rw [c, upd_same]; exact hx
  · rw [upd_ne c]; exact h q
section INV6
variable {G : Gl} {ad ad1 : Nat → Nat} {n n1 k : Nat} {ic md : Nat → Int32} {td kn : Int32} {fl gop gx gy rf rto ron rat rbe rtd rm fv : Nat → Int32} {E0 E E1 : Nat → va_E}
theorem WZ_other {i i2 R Q : Nat} {f t o a : Int32} (hi : i2 ≠ i) (hR : R < 8) (hQ : Q ≤ 8) (r y : Nat) : WZ ic md (upd rf (8 * i + R) f) (upd rto (8 * i + R) t) (upd ron (8 * i + R) o) (upd rat (8 * i + R) a) i2 Q r y = WZ ic md rf rto ron rat i2 Q r y := by
  unfold WZ
  by_cases c : r < Q ∧ y < 100
  · rw [if_pos c, if_pos c, upd_ne (by omega), upd_ne (by omega), upd_ne (by omega), upd_ne (by omega)]
  · rw [if_neg c, if_neg c]
theorem ZN1.other {b i i2 R : Nat} {f t o a v d n1 : Int32} (h : ZN1 G ad b i2 ic md rf rto ron rat rbe rtd rm fv E) (hi : i2 ≠ i) (hR : R < 8) (h8 : (rm i2).toInt ≤ 8) : ZN1 G ad b i2 ic md (upd rf (8 * i + R) f) (upd rto (8 * i + R) t) (upd ron (8 * i + R) o) (upd rat (8 * i + R) a) (upd rbe (8 * i + R) v) (upd rtd (8 * i + R) d) (upd rm i n1) fv E := by
  obtain ⟨ib, to, ro, rw1, yw, yo, ss, se, os, rt, Q, h0, h1, h2, h3, h4, h5, h6, h7, h9, a1, a2, a3, a4, a5, a6, a7, a8, a9, a10⟩ := h
  have hQ : Q ≤ 8 := by omega
  refine ⟨ib, to, ro, rw1, yw, yo, ss, se, os, rt, Q, h0, h1, h2, h3, h4, h5, h6, h7, h9, by rw [upd_ne hi]; exact a1, a2, a3, a4, a5, a6, fun r hr => ?_, fun r y h1 h2 => ?_, ?_, a10⟩
  · rw [upd_ne (by omega), upd_ne (by omega)]; exact a7 r hr
  · rw [WZ_other hi hR hQ]; exact a8 r y h1 h2
  · rw [al_congr 100 (W' := WZ ic md rf rto ron rat i2 Q) (B' := BZ rbe i2) (fun r y h1 h2 => ⟨WZ_other hi hR hQ r y, by unfold BZ; rw [upd_ne (by omega)]⟩)]
    exact a9
theorem ZN1.c10 {b i : Nat} (h : ZN1 G ad b i ic md rf rto ron rat rbe rtd rm fv E) (hP : CalP ic md) (hV : RZv ic rf rto ron rat rbe rtd rm fv i) : ∀ ib : Nat → Int32, E b = ob 6 (rfs ad [b + 1, b + 2, b + 3, b + 4, b + 5, b + 6, b + 7, b + 8]) ib → 0 ≤ (ib 10).toInt ∧ (ib 10).toInt ≤ 800 := by
  obtain ⟨ib, to, ro, rw1, yw, yo, ss, se, os, rt, R, h0, h1, h2, h3, h4, h5, h6, h7, h8, a1, a2, a3, a4, a5, a6, a7, a8, a9, a10⟩ := h
  intro ib2 e2
  rw [← ob_in (h0.symm.trans e2) (q := 10) (by decide) rfl]
  have hRn : (rm i).toInt.toNat = R := by omega
  have hR8 : R ≤ 8 := by have := hV.1; omega
  have hVs := hV.2.1
  rw [hRn] at hVs
  have hW := WZ_bd hP hVs
  have hW2 : WBp (WZ ic md rf rto ron rat i R) (BZ rbe i) rt 69300000 := ⟨fun r y h1 h2 => hW.1 r y (by omega) h2, fun r h1 => hW.2 r (by omega)⟩
  have q := (TK_ok hV.2.2 (show (0 : Int) ≤ 69300000 by decide) (alL (WZ ic md rf rto ron rat i R) (BZ rbe i) rt 100) (fun p hp => by have q := al_bd hW2 100 (Nat.le_refl _) p hp; exact ⟨q.1.2, q.2⟩)).2
  have q2 := al_len (W := WZ ic md rf rto ron rat i R) (B := BZ rbe i) (m := rt) 100
  have q3 := a9.1
  omega
theorem C8z.rule {i R : Nat} {f t o a v n1 : Int32} {iq : Nat → Int32} (h : C8z G ad k ic md td kn fl gop gx gy rf rto ron rat rbe rtd rm fv E) (hk : i < k) (hR8 : R < 8) (hV : VZp k ic rf rto ron rat rbe rtd rm fv td) (hVn : VZp k ic (upd rf (8 * i + R) f) (upd rto (8 * i + R) t) (upd ron (8 * i + R) o) (upd rat (8 * i + R) a) (upd rbe (8 * i + R) v) (upd rtd (8 * i + R) td) (upd rm i n1) fv td) (hN : ZN1 G ad (98 + 9 * i) i ic md (upd rf (8 * i + R) f) (upd rto (8 * i + R) t) (upd ron (8 * i + R) o) (upd rat (8 * i + R) a) (upd rbe (8 * i + R) v) (upd rtd (8 * i + R) td) (upd rm i n1) fv E1) (b45 : ∀ q, (bd4 q).1 ≤ (iq q).toInt ∧ (iq q).toInt ≤ (bd4 q).2) (g45 : E1 45 = ob 4 (rfs ad [46, 47]) (va_up iq 5 0)) (hf : ∀ j, j ≠ 45 → (j < 98 + 9 * i ∨ 98 + 9 * i + 9 ≤ j) → E1 j = E j) : C8z G ad k ic md td kn fl gop gx gy (upd rf (8 * i + R) f) (upd rto (8 * i + R) t) (upd ron (8 * i + R) o) (upd rat (8 * i + R) a) (upd rbe (8 * i + R) v) (upd rtd (8 * i + R) td) (upd rm i n1) fv E1 := by
  have hJ := h.1.1.1
  have hk5 := hJ.1
  obtain ⟨ms, ld, ys, -, -, -, -, -, hP, -⟩ := h.1.1.2.1
  have hvi := hVn.1 i (by omega)
  have hzc : ZC k (98 + 9 * i) := ⟨i, hk, rfl⟩
  have hty := zn1_ty hzc hN hvi.1.2 (hN.c10 hP hvi)
  refine ⟨h.1.step (hJ.with ⟨fun j hj => hf j ?_ ?_, fun j hj => ?_⟩), fun i2 hi2 => ?_⟩
  · unfold P8 at hj; omega
  · unfold P8 at hj; omega
  · by_cases q : 98 + 9 * i ≤ j ∧ j < 98 + 9 * i + 9
    · have q2 := hty (j - (98 + 9 * i)) (by omega)
      rw [show 98 + 9 * i + (j - (98 + 9 * i)) = j by omega] at q2
      exact q2
    · by_cases q2 : j = 45
      · rw [q2]; exact ty45 b45 g45
      · rw [hf j q2 (by omega)]; exact hJ.2.2.2 j hj
  · by_cases c : i2 = i
    · subst c; exact hN
    · exact ((h.2 i2 hi2).other c hR8 (hV.1 i2 (by omega)).1.2).go (fun j h1 h2 => hf j (by omega) (by omega))
end INV6
