/-! ===== a rule told to a zone of the class ===== -/
theorem WZ_new {ic md rf rto ron rat : Nat → Int32} {i R : Nat} {f t o a : Int32} (r y : Nat) (hr : r ≠ R) : WZ ic md (upd rf (8 * i + R) f) (upd rto (8 * i + R) t) (upd ron (8 * i + R) o) (upd rat (8 * i + R) a) i (R + 1) r y = WZ ic md rf rto ron rat i R r y := by
  unfold WZ
  by_cases c : r < R ∧ y < 100
  · rw [if_pos c, if_pos (⟨by omega, c.2⟩ : r < R + 1 ∧ y < 100), upd_ne (by omega), upd_ne (by omega), upd_ne (by omega), upd_ne (by omega)]
  · rw [if_neg c, if_neg (fun q => c ⟨by omega, q.2⟩)]
theorem WZ_row {ic md rf rto ron rat : Nat → Int32} {i R : Nat} {f t o a : Int32} {y : Nat} (hy : y < 100) : WZ ic md (upd rf (8 * i + R) f) (upd rto (8 * i + R) t) (upd ron (8 * i + R) o) (upd rat (8 * i + R) a) i (R + 1) R y = WMf ic md f.toInt t.toInt o.toInt a.toInt y := by
  unfold WZ
  rw [if_pos ⟨by omega, hy⟩, upd_same, upd_same, upd_same, upd_same]
/-- what row R of the walls holds when the years below Y are reckoned -/
def RWr (ic md : Nat → Int32) (F O A : Int) (Y y : Nat) : Int := if F ≤ (y : Int) ∧ y < Y ∧ NWf ic md (12 * y + (O / 1000).toNat) (O / 10 % 100) (O % 10) ≠ -1 then 1440 * NWf ic md (12 * y + (O / 1000).toNat) (O / 10 % 100) (O % 10) + A else -1
theorem RWr_end {ic md : Nat → Int32} {F T O A : Int} {Y y : Nat} (hT : (Y : Int) = T + 1) : RWr ic md F O A Y y = WMf ic md F T O A y := by
  unfold RWr WMf
  by_cases c : F ≤ (y : Int) ∧ (y : Int) ≤ T ∧ NWf ic md (12 * y + (O / 1000).toNat) (O / 10 % 100) (O % 10) ≠ -1
  · rw [if_pos c, if_pos ⟨c.1, by omega, c.2.2⟩]
  · rw [if_neg c, if_neg (fun q => c ⟨q.1, by omega, q.2.2⟩)]
theorem RWr_0 {ic md : Nat → Int32} {F O A : Int} {Y y : Nat} (hY : (Y : Int) ≤ F) : RWr ic md F O A Y y = -1 := by
  unfold RWr
  rw [if_neg (fun q => by have := q.1; have := q.2.1; omega)]
theorem RWr_ne {ic md : Nat → Int32} {F O A : Int} {Y y : Nat} (h : y ≠ Y) : RWr ic md F O A (Y + 1) y = RWr ic md F O A Y y := by
  unfold RWr
  by_cases c : F ≤ (y : Int) ∧ y < Y ∧ NWf ic md (12 * y + (O / 1000).toNat) (O / 10 % 100) (O % 10) ≠ -1
  · rw [if_pos c, if_pos ⟨c.1, by omega, c.2.2⟩]
  · rw [if_neg c, if_neg (fun q => c ⟨q.1, by omega, q.2.2⟩)]
theorem RWr_no {ic md : Nat → Int32} {F O A : Int} {Y : Nat} (h : NWf ic md (12 * Y + (O / 1000).toNat) (O / 10 % 100) (O % 10) = -1) : RWr ic md F O A (Y + 1) Y = RWr ic md F O A Y Y := by
  unfold RWr
  rw [if_neg (fun q => q.2.2 h), if_neg (fun q => absurd q.2.1 (by omega))]
theorem RWr_yes {ic md : Nat → Int32} {F O A : Int} {Y : Nat} (hF : F ≤ (Y : Int)) (h : NWf ic md (12 * Y + (O / 1000).toNat) (O / 10 % 100) (O % 10) ≠ -1) : RWr ic md F O A (Y + 1) Y = 1440 * NWf ic md (12 * Y + (O / 1000).toNat) (O / 10 % 100) (O % 10) + A := by
  unfold RWr
  rw [if_pos ⟨hF, by omega, h⟩]
theorem ZN1_tell {G : Gl} {ad : Nat → Nat} {b i R rt Y : Nat} {ic md rf rto ron rat rbe rtd rm fv ib to ro rw0 rw1 yw yo ss se os : Nat → Int32} {E' : Nat → va_E} {y o a v td f t n1 n2 : Int32}
    (g0 : E' b = ob 6 (rfs ad [b + 1, b + 2, b + 3, b + 4, b + 5, b + 6, b + 7, b + 8]) (va_up ib 8 n2)) (g1 : E' (b + 1) = aI G 8 (upd to R td)) (g2 : E' (b + 2) = aI G 8 (upd ro R v)) (g3 : E' (b + 3) = aI G 800 rw1) (g4 : E' (b + 4) = aI G 8 yw) (g5 : E' (b + 5) = aI G 8 yo) (g6 : E' (b + 6) = aI G 801 ss) (g7 : E' (b + 7) = aI G 801 se) (g8 : E' (b + 8) = aI G 801 os)
    (hn2 : n2.toInt = (R : Int) + 1) (hR8 : R < 8) (e9 : (ib 9).toInt = (rt : Int)) (hrt : rt ≤ R) (s0 : (ss 0).toInt = 0) (v0 : (os 0).toInt = (fv i).toInt) (hto : ∀ r, r < R → (to r).toInt = (rtd (8 * i + r)).toInt ∧ (ro r).toInt = (rbe (8 * i + r)).toInt) (hrw : ∀ r y, r < 8 → y < 100 → (rw0 (100 * r + y)).toInt = WZ ic md rf rto ron rat i R r y)
    (ho : ∀ q, (q < 100 * R ∨ 100 * R + 100 ≤ q) → rw1 q = rw0 q) (hrow : ∀ q, q < 100 → (rw1 (100 * R + q)).toInt = RWr ic md (y.toInt / 100) o.toInt a.toInt Y q) (hY : (Y : Int) = y.toInt % 100 + 1)
    (hZR : ZR (ib 10).toInt ss os (TKl (fv i).toInt (alL (WZ ic md rf rto ron rat i R) (BZ rbe i) rt 100))) (hEN : ENp (ib 10).toInt ss se)
    (hf : f.toInt = y.toInt / 100) (ht : t.toInt = y.toInt % 100) (hn1 : n1.toInt = (R : Int) + 1) : ZN1 G ad b i ic md (upd rf (8 * i + R) f) (upd rto (8 * i + R) t) (upd ron (8 * i + R) o) (upd rat (8 * i + R) a) (upd rbe (8 * i + R) v) (upd rtd (8 * i + R) td) (upd rm i n1) fv E' := by
  have u8 : va_up ib 8 n2 8 = n2 := by simp [va_up]
  have u9 : va_up ib 8 n2 9 = ib 9 := by simp [va_up]
  have u10 : va_up ib 8 n2 10 = ib 10 := by simp [va_up]
  refine ⟨va_up ib 8 n2, upd to R td, upd ro R v, rw1, yw, yo, ss, se, os, rt, R + 1, g0, g1, g2, g3, g4, g5, g6, g7, g8, by rw [upd_same, hn1]; rfl, by rw [u8, hn2]; rfl, by rw [u9]; exact e9, by omega, s0, v0, fun r hr => ?_, fun r q h1 h2 => ?_, ?_, by rw [u10]; exact hEN⟩
  · by_cases c : r = R
    · rw [c, upd_same, upd_same, upd_same, upd_same]; exact ⟨rfl, rfl⟩
    · rw [upd_ne c, upd_ne c, upd_ne (by omega), upd_ne (by omega)]; exact hto r (by omega)
  · by_cases c : r = R
    · rw [c, hrow q h2, WZ_row h2, hf, ht]; exact RWr_end hY
    · rw [WZ_new r q c, ho (100 * r + q) (by omega)]; exact hrw r q h1 h2
  · rw [u10, al_congr 100 (W' := WZ ic md rf rto ron rat i R) (B' := BZ rbe i) (fun r q h1 h2 => ⟨WZ_new r q (by omega), by unfold BZ; rw [upd_ne (by omega)]⟩)]
    exact hZR
