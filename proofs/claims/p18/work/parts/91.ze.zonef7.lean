/-! ===== a zone of the class: what it holds, and that a refresh keeps it ===== -/
theorem yl_congr {W W' : Nat → Nat → Int} {B B' : Nat → Int} {y : Nat} : ∀ m, (∀ r, r < m → W r y = W' r y ∧ B r = B' r) → ylL W B y m = ylL W' B' y m := by
  intro m
  induction m with
  | zero => intro _; rfl
  | succ m ih =>
    intro h
    show (if W m y = -1 then ylL W B y m else insL (W m y) (B m) (ylL W B y m)) = (if W' m y = -1 then ylL W' B' y m else insL (W' m y) (B' m) (ylL W' B' y m))
    rw [ih (fun r hr => h r (by omega)), (h m (by omega)).1, (h m (by omega)).2]
theorem al_congr {W W' : Nat → Nat → Int} {B B' : Nat → Int} {m : Nat} : ∀ Y, (∀ r y, r < m → y < Y → W r y = W' r y ∧ B r = B' r) → alL W B m Y = alL W' B' m Y := by
  intro Y
  induction Y with
  | zero => intro _; rfl
  | succ Y ih =>
    intro h
    show alL W B m Y ++ ylL W B Y m = alL W' B' m Y ++ ylL W' B' Y m
    rw [ih (fun r y h1 h2 => h r y h1 (by omega)), yl_congr m (fun r hr => h r Y hr (by omega))]
theorem cnt_congr {to to' : Nat → Int32} {kn : Int} : ∀ R, (∀ r, r < R → (to r).toInt = (to' r).toInt) → cntT to kn R = cntT to' kn R := by
  intro R
  induction R with
  | zero => intro _; rfl
  | succ R ih =>
    intro h
    show (if (to R).toInt ≤ kn then cntT to kn R + 1 else cntT to kn R) = (if (to' R).toInt ≤ kn then cntT to' kn R + 1 else cntT to' kn R)
    rw [ih (fun r hr => h r (by omega)), h R (by omega)]
def loY (ic md : Nat → Int32) (y : Nat) : Int := 1440 * FKf ic md (12 * (if y < 100 then y else 100))
theorem WZ_YR {ic md rf rto ron rat rbe rtd : Nat → Int32} {zz R : Nat} (hP : CalP ic md) (hV : RVs ic rf rto ron rat rbe rtd zz R) : YRp (WZ ic md rf rto ron rat zz R) (loY ic md) := by
  refine ⟨fun r y => ?_, ?_, fun y => ?_⟩
  · unfold WZ
    by_cases c : r < R ∧ y < 100
    · rw [if_pos c]
      have h := hV.1 r c.1
      unfold RVp at h
      unfold WMf
      split
      · rename_i q
        right
        have hb : ((ron (8 * zz + r)).toInt / 1000).toNat < 12 := by omega
        have h1 := NW_r hP (k := 12 * y + ((ron (8 * zz + r)).toInt / 1000).toNat) (by omega) (wd := (ron (8 * zz + r)).toInt / 10 % 100) (n := (ron (8 * zz + r)).toInt % 10) (by omega)
        rcases h1 with h1 | h1
        · exact absurd h1 q.2.2
        · have h2 := FK_mono hP (a := 12 * y) (b := 12 * y + ((ron (8 * zz + r)).toInt / 1000).toNat) (by omega)
          have h3 := FK_mono hP (a := 12 * y + ((ron (8 * zz + r)).toInt / 1000).toNat + 1) (b := 12 * (y + 1)) (by omega)
          have e1 : loY ic md y = 1440 * FKf ic md (12 * y) := by unfold loY; rw [if_pos c.2]
          have e2 : loY ic md (y + 1) = 1440 * FKf ic md (12 * (y + 1)) := by
            unfold loY
            by_cases g : y + 1 < 100
            · rw [if_pos g]
            · rw [if_neg g, show y + 1 = 100 by omega]
          rw [e1, e2]
          omega
      · exact Or.inl rfl
    · rw [if_neg c]; exact Or.inl rfl
  · show 1440 * FKf ic md (12 * (if (0 : Nat) < 100 then 0 else 100)) = 0
    rw [if_pos (by decide), show 12 * 0 = 0 by rfl, FK_0 hP]
    rfl
  · unfold loY
    have h := FK_mono hP (a := 12 * (if y < 100 then y else 100)) (b := 12 * (if y + 1 < 100 then y + 1 else 100)) (by split <;> split <;> omega)
    have h2 : (12 * (if y < 100 then y else 100) : Nat) ≤ 12 * (if y + 1 < 100 then y + 1 else 100) := by split <;> split <;> omega
    omega
/-- zone i of the class, at b: its rules as they are told, its changes as some known day made them -/
def ZN1 (G : Gl) (ad : Nat → Nat) (b i : Nat) (ic md rf rto ron rat rbe rtd rm fv : Nat → Int32) (E : Nat → va_E) : Prop := ∃ (ib to ro rw yw yo ss se os : Nat → Int32) (rt R : Nat), E b = ob 6 (rfs ad [b + 1, b + 2, b + 3, b + 4, b + 5, b + 6, b + 7, b + 8]) ib ∧ E (b + 1) = aI G 8 to ∧ E (b + 2) = aI G 8 ro ∧ E (b + 3) = aI G 800 rw ∧ E (b + 4) = aI G 8 yw ∧ E (b + 5) = aI G 8 yo ∧ E (b + 6) = aI G 801 ss ∧ E (b + 7) = aI G 801 se ∧ E (b + 8) = aI G 801 os ∧ (rm i).toInt = (R : Int) ∧ (ib 8).toInt = (R : Int) ∧ (ib 9).toInt = (rt : Int) ∧ rt ≤ R ∧ (ss 0).toInt = 0 ∧ (os 0).toInt = (fv i).toInt ∧ (∀ r, r < R → (to r).toInt = (rtd (8 * i + r)).toInt ∧ (ro r).toInt = (rbe (8 * i + r)).toInt) ∧ (∀ r y, r < 8 → y < 100 → (rw (100 * r + y)).toInt = WZ ic md rf rto ron rat i R r y) ∧ ZR (ib 10).toInt ss os (TKl (fv i).toInt (alL (WZ ic md rf rto ron rat i R) (BZ rbe i) rt 100)) ∧ ENp (ib 10).toInt ss se
def ZCl (G : Gl) (ad : Nat → Nat) (k : Nat) (ic md rf rto ron rat rbe rtd rm fv : Nat → Int32) (E : Nat → va_E) : Prop := ∀ i, i < k → ZN1 G ad (98 + 9 * i) i ic md rf rto ron rat rbe rtd rm fv E
/-- zone i as known on day kn -/
def ZYp (G : Gl) (ad : Nat → Nat) (b : Nat) (T : TST) (E : Nat → va_E) : Prop := ∃ (ib ss se os : Nat → Int32) (c : Nat), E b = ob 6 (rfs ad [b + 1, b + 2, b + 3, b + 4, b + 5, b + 6, b + 7, b + 8]) ib ∧ E (b + 6) = aI G 801 ss ∧ E (b + 7) = aI G 801 se ∧ E (b + 8) = aI G 801 os ∧ (ib 10).toInt = (c : Int) ∧ c = T.1 ∧ ZR (c : Int) ss os T ∧ STR c ss se os
def ZYc (G : Gl) (ad : Nat → Nat) (k : Nat) (ic md rf rto ron rat rbe rtd rm fv : Nat → Int32) (b : Nat) (x : Int32) (E : Nat → va_E) : Prop := ∀ i, i < k → b = 98 + 9 * i → ZYp G ad b (TTz ic md rf rto ron rat rbe rtd rm fv x.toInt i) E
section ZCL
variable {G : Gl} {ad : Nat → Nat} {k : Nat} {ic md rf rto ron rat rbe rtd rm fv : Nat → Int32} {E0 E E1 : Nat → va_E}
theorem ZN1.go {b i : Nat} (h : ZN1 G ad b i ic md rf rto ron rat rbe rtd rm fv E) (o : ∀ j, b ≤ j → j < b + 9 → E1 j = E j) : ZN1 G ad b i ic md rf rto ron rat rbe rtd rm fv E1 := by
  obtain ⟨ib, to, ro, rw1, yw, yo, ss, se, os, rt, R, h0, h1, h2, h3, h4, h5, h6, h7, h8, r⟩ := h
  exact ⟨ib, to, ro, rw1, yw, yo, ss, se, os, rt, R, (o _ (by omega) (by omega)).trans h0, (o _ (by omega) (by omega)).trans h1, (o _ (by omega) (by omega)).trans h2, (o _ (by omega) (by omega)).trans h3, (o _ (by omega) (by omega)).trans h4, (o _ (by omega) (by omega)).trans h5, (o _ (by omega) (by omega)).trans h6, (o _ (by omega) (by omega)).trans h7, (o _ (by omega) (by omega)).trans h8, r⟩
theorem ZCl.cg : ZCg (ZCl G ad k ic md rf rto ron rat rbe rtd rm fv) := fun E E1 h o i hi => (h i hi).go (fun j h1 _ => o j (by omega))
theorem zn1_ty {b i : Nat} (hb : ZC k b) (h : ZN1 G ad b i ic md rf rto ron rat rbe rtd rm fv E) (h8 : (rm i).toInt ≤ 8) (h10 : ∀ ib : Nat → Int32, E b = ob 6 (rfs ad [b + 1, b + 2, b + 3, b + 4, b + 5, b + 6, b + 7, b + 8]) ib → 0 ≤ (ib 10).toInt ∧ (ib 10).toInt ≤ 800) : ∀ r, r < 9 → HasTy G ad (Ty8 k (b + r)) (E (b + r)) := by
  obtain ⟨ib, to, ro, rw1, yw, yo, ss, se, os, rt, R, g0, g1, g2, g3, g4, g5, g6, g7, g8, e1, e2, e3, e4, -⟩ := h
  have b10 := h10 ib g0
  intro r hr
  rw [hb.t hr]
  match r, hr with
  | 0, _ =>
    refine ⟨fun _ => ⟨ib, g0, fun q => ?_⟩, fun q => absurd (show (0 : Nat) = 1 from q) (by decide), fun q => absurd (show (0 : Nat) = 2 from q) (by decide), fun q => absurd (show (0 : Nat) = 3 from q) (by decide)⟩
    show (bd6 q).1 ≤ (ib q).toInt ∧ (ib q).toInt ≤ (bd6 q).2
    unfold bd6
    by_cases q8 : q = 8
    · rw [if_pos q8, q8]; show (0 : Int) ≤ _ ∧ _ ≤ (8 : Int); omega
    · rw [if_neg q8]
      by_cases q9 : q = 9
      · rw [if_pos q9, q9]; show (0 : Int) ≤ _ ∧ _ ≤ (8 : Int); omega
      · rw [if_neg q9]
        by_cases qa : q = 10
        · rw [if_pos qa, qa]; exact b10
        · rw [if_neg qa]; exact ti_any _
  | 1, _ => exact HasTy.any g1
  | 2, _ => exact HasTy.any g2
  | 3, _ => exact HasTy.any g3
  | 4, _ => exact HasTy.any g4
  | 5, _ => exact HasTy.any g5
  | 6, _ => exact HasTy.any g6
  | 7, _ => exact HasTy.any g7
  | 8, _ => exact HasTy.any g8
/-- a refresh keeps what the zones hold, and makes one known -/
theorem ZCl.refr (l : Launch) (hP : CalP ic md) (hV : ∀ z, z < k → RZv ic rf rto ron rat rbe rtd rm fv z) : ZRf l G ad k (ZCl G ad k ic md rf rto ron rat rbe rtd rm fv) (ZYc G ad k ic md rf rto ron rat rbe rtd rm fv) := by
  intro E0 E b x hb hJ hZ
  obtain ⟨i, hi, hbi⟩ := id hb
  have hbn := hb.n
  have hz1 := hZ i hi
  rw [← hbi] at hz1
  obtain ⟨ib, to, ro, rw1, yw, yo, ss, se, os, rt, R, g0, g1, g2, g3, g4, g5, g6, g7, g8, eR, e8, e9, hrt, s0, v0, hto, hrw, hZR, hEN⟩ := hz1
  have hv := hV i hi
  have hRn : (rm i).toInt.toNat = R := by omega
  have hR8 : R ≤ 8 := by have := hv.1; omega
  have hVs := hv.2.1
  rw [hRn] at hVs
  have hcg : ∀ m, m ≤ R → alL (fun r y => (rw1 (100 * r + y)).toInt) (fun r => (ro r).toInt) m 100 = alL (WZ ic md rf rto ron rat i R) (BZ rbe i) m 100 := fun m hm => al_congr 100 (fun r y h1 h2 => ⟨hrw r y (by omega) h2, (hto r (by omega)).2⟩)
  have hWB : WBp (fun r y => (rw1 (100 * r + y)).toInt) (fun r => (ro r).toInt) R 69300000 := by
    have q := WZ_bd hP hVs
    refine ⟨fun r y h1 h2 => ?_, fun r h1 => ?_⟩
    · show (rw1 (100 * r + y)).toInt = -1 ∨ (0 ≤ (rw1 (100 * r + y)).toInt ∧ (rw1 (100 * r + y)).toInt ≤ 69300000)
      rw [hrw r y (by omega) h2]; exact q.1 r y h1 h2
    · show -720 ≤ (ro r).toInt ∧ (ro r).toInt ≤ 720
      rw [(hto r h1).2]; exact q.2 r h1
  refine (z_refresh l G (98 + 9 * k) ad E b (by omega) g0 g2 g3 g4 g5 g6 g7 g8 g1 (rt := rt) (R := R) e9 e8 hR8 s0 (by rw [v0]; exact hv.2.2) (D := 69300000) ⟨by decide, by decide⟩ hWB (by rw [v0, hcg rt hrt]; exact hZR) hEN x).mono (fun E' hp => ?_)
  obtain ⟨ib1, yw1, yo1, ss1, se1, os1, a0, a9, ak, a4, a5, a6, a7, a8, aZ, aE, aO⟩ := hp
  have hcn : cntT to x.toInt R = cntT (tdz rtd i) x.toInt R := cnt_congr R (fun r hr => (hto r hr).1)
  rw [v0, hcn, hcg _ (cntT_le R)] at aZ
  have hTe : TTz ic md rf rto ron rat rbe rtd rm fv x.toInt i = TKl (fv i).toInt (alL (WZ ic md rf rto ron rat i R) (BZ rbe i) (cntT (tdz rtd i) x.toInt R) 100) := by
    unfold TTz LLz
    rw [hRn, al_rg (WZ_YR hP hVs)]
  have hok := TTz_ok (kn := x.toInt) hP hv
  rw [hTe] at hok
  have hz0 := (aZ.2 0 (Nat.zero_le _))
  have hN : ZN1 G ad b i ic md rf rto ron rat rbe rtd rm fv E' := by
    refine ⟨ib1, to, ro, rw1, yw1, yo1, ss1, se1, os1, cntT (tdz rtd i) x.toInt R, R, a0, (aO _ (by omega) (by omega) (by omega) (by omega) (by omega) (by omega)).trans g1, (aO _ (by omega) (by omega) (by omega) (by omega) (by omega) (by omega)).trans g2, (aO _ (by omega) (by omega) (by omega) (by omega) (by omega) (by omega)).trans g3, a4, a5, a6, a7, a8, eR, ?_, ?_, cntT_le R, ?_, ?_, hto, hrw, aZ, aE⟩
    · rw [ak 8 (by decide) (by decide)]; exact e8
    · rw [a9, hcn]
    · rw [hz0.1]; exact hok.1.1
    · rw [hz0.2]; exact TK_v0 _
  have hJ1 : J8 G ad k E0 E' := by
    refine hJ.with ⟨fun j hj => (aO j ?_ ?_ ?_ ?_ ?_ ?_).trans (hJ.2.2.1 j hj), fun j hj => ?_⟩
    · unfold P8 at hj; omega
    · unfold P8 at hj; omega
    · unfold P8 at hj; omega
    · unfold P8 at hj; omega
    · unfold P8 at hj; omega
    · unfold P8 at hj; omega
    · by_cases q : b ≤ j ∧ j < b + 9
      · have t := zn1_ty hb hN (by omega) (fun ib2 e2 => by
          have e3 := ob_in (a0.symm.trans e2) (q := 10) (by decide) rfl
          have e4 := aZ.1
          rw [← e3]
          omega) (j - b) (by omega)
        rw [show b + (j - b) = j by omega] at t
        exact t
      · rw [aO j (by omega) (by omega) (by omega) (by omega) (by omega) (by omega)]; exact hJ.2.2.2 j hj
  refine ⟨hJ1, fun i2 hi2 => ?_, fun i2 hi2 hb2 => ?_⟩
  · by_cases q : i2 = i
    · subst q; rw [← hbi]; exact hN
    · exact (hZ i2 hi2).go (fun j h1 h2 => aO j (by omega) (by omega) (by omega) (by omega) (by omega) (by omega))
  · have q : i2 = i := by omega
    subst q
    rw [hTe]
    obtain ⟨c, hc⟩ : ∃ c : Nat, (ib1 10).toInt = (c : Int) := ⟨_, aZ.1.symm⟩
    have q := STR_of hc hok.1 (by decide) hok.2 aZ aE
    exact ⟨ib1, ss1, se1, os1, c, a0, a6, a7, a8, hc, q.1, by rw [← hc]; exact aZ, q.2⟩
end ZCL
