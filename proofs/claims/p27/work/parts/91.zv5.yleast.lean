set_option maxRecDepth 20000 in
theorem y_isRow (l : Launch) (G : Gl) (n : Nat) (ad : Nat → Nat) (E : Nat → va_E) (a : Int32) (m : Int32) (z : Int32) (hz : z.toInt ≤ 2000000) : CtI l G yX9_isRow cX9_isRow 3 .boolean 2 42 (n) ad E [.int a, .int m, .int z] (fun r E' => ((r = 1 ∧ (okRow a.toInt m.toInt z.toInt)) ∨ (r = 0 ∧ ¬ (okRow a.toInt m.toInt z.toInt))) ∧ E = E') := by
  refine CtI.of (by decide) (Nat.le_of_ble_eq_true rfl) (fun X A C => ?_)
  refine v_sub (lv' := [(0, .int a), (1, .int m), (2, .int z)]) [0, 1, 2] rfl ?_
  refine v_iload_n C 0 dX9_isRow_0 rfl rfl ?_
  refine v_cSp C dX9_isRow_1 lX9_179 mX9_isMoment (y_isMoment l G _ ad _  a) ⟨by decide, by decide⟩ rfl (Nat.le_of_ble_eq_true rfl) ⟨Nat.zero_le _, Nat.zero_le _⟩ (fun r1 hp2 => ?_)
  rcases hp2 with ⟨rfl, hp2⟩ | ⟨rfl, hp2⟩
  · refine b_if_eq C 29 dX9_isRow_4 (by decide) (show (1 : Int32).toInt = 1 by decide) (fun c3 => absurd c3 (by decide)) (fun c3 => ?_)
    refine v_iload_n C 1 dX9_isRow_7 rfl rfl ?_
    refine v_iconst (v := 0) C dX9_isRow_8 (by decide) ?_
    refine v_iload_n C 2 dX9_isRow_9 rfl rfl ?_
    refine v_cSp C dX9_isRow_10 lX9_131 mX9_within (d_within l G _ ad _ m 0 z) ⟨by decide, by decide⟩ rfl (Nat.le_of_ble_eq_true rfl) ⟨Nat.zero_le _, Nat.zero_le _⟩ (fun r4 hp5 => ?_)
    rw [(show (0 : Int32).toInt = 0 by decide), (rfl : Int32.toInt z = _)] at hp5
    rcases hp5 with ⟨rfl, hp5⟩ | ⟨rfl, hp5⟩
    · refine b_if_eq C 29 dX9_isRow_13 (by decide) (show (1 : Int32).toInt = 1 by decide) (fun c6 => absurd c6 (by decide)) (fun c6 => ?_)
      refine v_iload_n C 0 dX9_isRow_16 rfl rfl ?_
      refine v_iload_n C 1 dX9_isRow_17 rfl rfl ?_
      refine v_iadd C dX9_isRow_18 ?_
      refine v_top (fun x7 ex7 => ?_)
      have hx7 : x7.toInt = (a.toInt + m.toInt) := by rw [ex7]; exact ti_add (rfl : Int32.toInt a = _) (rfl : Int32.toInt m = _) (by omega) (by omega)
      refine v_cSp C dX9_isRow_19 lX9_179 mX9_isMoment (y_isMoment l G _ ad _  x7) ⟨by decide, by decide⟩ rfl (Nat.le_of_ble_eq_true rfl) ⟨Nat.zero_le _, Nat.zero_le _⟩ (fun r8 hp9 => ?_)
      rw [hx7] at hp9
      rcases hp9 with ⟨rfl, hp9⟩ | ⟨rfl, hp9⟩
      · refine b_if_eq C 29 dX9_isRow_22 (by decide) (show (1 : Int32).toInt = 1 by decide) (fun c10 => absurd c10 (by decide)) (fun c10 => ?_)
        refine v_iconst (v := 1) C dX9_isRow_25 (by decide) ?_
        refine v_goto C 30 dX9_isRow_26 (by decide) ?_
        exact v_ret C dX9_isRow_30 rfl rfl ⟨Or.inl ⟨rfl, by unfold okRow; omega⟩, rfl⟩
      · refine b_if_eq C 29 dX9_isRow_22 (by decide) (show (0 : Int32).toInt = 0 by decide) (fun c11 => ?_) (fun c11 => absurd c11 (by decide))
        refine v_iconst (v := 0) C dX9_isRow_29 (by decide) ?_
        exact v_ret C dX9_isRow_30 rfl rfl ⟨Or.inr ⟨rfl, by unfold okRow; omega⟩, rfl⟩
    · refine b_if_eq C 29 dX9_isRow_13 (by decide) (show (0 : Int32).toInt = 0 by decide) (fun c12 => ?_) (fun c12 => absurd c12 (by decide))
      refine v_iconst (v := 0) C dX9_isRow_29 (by decide) ?_
      exact v_ret C dX9_isRow_30 rfl rfl ⟨Or.inr ⟨rfl, by unfold okRow; omega⟩, rfl⟩
  · refine b_if_eq C 29 dX9_isRow_4 (by decide) (show (0 : Int32).toInt = 0 by decide) (fun c13 => ?_) (fun c13 => absurd c13 (by decide))
    refine v_iconst (v := 0) C dX9_isRow_29 (by decide) ?_
    exact v_ret C dX9_isRow_30 rfl rfl ⟨Or.inr ⟨rfl, by unfold okRow; omega⟩, rfl⟩

/-- what questions leave of the reference -/
def FBs (G : Gl) (ad : Nat → Nat) (E E1 : Nat → va_E) (im ic md : Nat → Int32) (TT : Nat → TST) : Prop := ∃ kd1 vl1 im1 : Nat → Int32, (∀ q, q ≠ 7 → q ≠ 35 → im1 q = im q) ∧ MCal G ad E1 im1 ic md ∧ ZMs G E1 5 TT ∧ E1 92 = aI G 8 kd1 ∧ E1 93 = aI G 8 vl1 ∧ ∀ j, j ≠ 68 → j ≠ 70 → (j < 79 ∨ 84 < j) → j ≠ 92 → j ≠ 93 → E1 j = E j

set_option maxRecDepth 20000 in
theorem y_firstBroken (l : Launch) (G : Gl) (n : Nat) (ad : Nat → Nat) (E : Nat → va_E) (hn : 98 ≤ n) {im ic md : Nat → Int32} (hW : MCal G ad E im ic md) {rf rto ron rat rbe rtd rm fv : Nat → Int32} (hR : ZMr G E rf rto ron rat rbe rtd rm fv) {TT : Nat → TST} (hS : ZMs G E 5 TT) (hTT : ∀ z, z < 5 → TT z = TTz ic md rf rto ron rat rbe rtd rm fv (im 18).toInt z) (hV : ∀ z, z < 5 → RZv ic rf rto ron rat rbe rtd rm fv z) {kd vl : Nat → Int32} (h92 : E 92 = aI G 8 kd) (h93 : E 93 = aI G 8 vl) {fo fx fy : Nat → Int32} (h89 : E 89 = aI G 10 fo) (h90 : E 90 = aI G 10 fx) (h91 : E 91 = aI G 10 fy) {k N : Nat} (hk5 : k ≤ 5) (hN10 : N ≤ 10) (hnN : (im 32).toInt = (N : Int)) (hop : ∀ j, j < N → 0 ≤ (fo j).toInt ∧ (fo j).toInt ≤ 11) (hln : ∀ j, j < N → okLn (k : Int) (fo j).toInt (fx j).toInt (fy j).toInt) {Kw : Nat → Int32} (hwh : RSf fo N = some (1, Kw)) {od : Nat → Int32} (h97 : E 97 = aI G 40000 od) {L : Nat} (hL : (im 41).toInt = (L : Int)) (hL4 : L ≤ 26002) (hrg : ∀ q, q < L → 0 ≤ (od q).toInt ∧ (od q).toInt < 60000000) (x : Int32) (v : Int32) (hlw : okLW (k : Int) x.toInt v.toInt) : CtI l G yX9_firstBroken cX9_firstBroken 4 .int 9 223 (n) ad E [.ref (ad 68), .int x, .int v] (fun r E' => FBp (KPt ic md TT fo fx fy N x.toInt v.toInt) L (fun q => (od q).toInt) (-6) r.toInt ∧ FBs G ad E E' im ic md TT) := by
  refine CtI.of (by decide) (Nat.le_of_ble_eq_true rfl) (fun X A C => ?_)
  refine v_sub (lv' := [(0, .ref (ad 68)), (1, .int x), (2, .int v)]) [0, 1, 2] rfl ?_
  have hP := hW.2.1
  have h68 := hW.2.2.1
  have hcy := cal_y hP
  have h8T : ∀ z, z < 5 → (TT z).1 ≤ 800 := fun z hz => by rw [hTT z hz]; exact (TTz_ok hP (hV z hz)).2
  have hokT : ∀ z, z < 5 → okT 69300000 (TT z) := fun z hz => by rw [hTT z hz]; exact (TTz_ok hP (hV z hz)).1
  refine v_iconst (v := 0) C dX9_firstBroken_0 (by decide) ?_
  refine v_istore_n (lv' := [(0, .ref (ad 68)), (1, .int x), (2, .int v), (3, .int 0)]) C [1, 2, 3, 0] dX9_firstBroken_1 rfl (by decide) rfl ?_
  have LP1 : ∀ (t : Nat) (i1 : Nat) (y2 : Int32) (E3 : Nat → va_E), (y2.toInt = (i1 : Int)) → (FBs G ad E E3 im ic md TT) → (i1 ≤ L) → (∀ j, j < i1 → KPt ic md TT fo fx fy N x.toInt v.toInt (od j).toInt) → (L : Int) - (i1 : Int) < (t : Int) → V X G A 4 (QI X G A (n) ad (fun r E' => FBp (KPt ic md TT fo fx fy N x.toInt v.toInt) L (fun q => (od q).toInt) (-6) r.toInt ∧ FBs G ad E E' im ic md TT)) (n) ad 0 0 E3 2 [(0, .ref (ad 68)), (1, .int x), (2, .int v), (3, .int y2)] [] := by
    intro t6
    induction t6 with
    | zero => intro i1 y2 E3 hy2 hI4 hq5 hall hm8; exfalso; omega
    | succ t6 ih7 =>
      intro i1 y2 E3 hy2 hI4 hq5 hall hm8
      obtain ⟨kd1, vl1, im1, u1, u4, u5, u6, u7, u8⟩ := id hI4
      have e68a := u4.2.2.1
      have hR1 := hR.go (fun j g1 g2 => u8 j (by omega) (by omega) (by omega) (by omega) (by omega))
      have hT1 : ∀ z, z < 5 → TT z = TTz ic md rf rto ron rat rbe rtd rm fv (im1 18).toInt z := fun z hz => by rw [u1 18 (by decide) (by decide)]; exact hTT z hz
      have v89 := (u8 89 (by decide) (by decide) (by omega) (by decide) (by decide)).trans h89
      have v90 := (u8 90 (by decide) (by decide) (by omega) (by decide) (by decide)).trans h90
      have v91 := (u8 91 (by decide) (by decide) (by omega) (by decide) (by decide)).trans h91
      have v97 := (u8 97 (by decide) (by decide) (by omega) (by decide) (by decide)).trans h97
      have hL1 : (im1 41).toInt = (L : Int) := by rw [u1 41 (by decide) (by decide)]; exact hL
      have hn1 : (im1 32).toInt = (N : Int) := by rw [u1 32 (by decide) (by decide)]; exact hnN
      refine v_iload_n C 3 dX9_firstBroken_2 rfl rfl ?_
      refine v_aload_n C 0 dX9_firstBroken_3 rfl rfl ?_
      refine v_geti (v := im1 41) C 68 dX9_firstBroken_4 fX9_265 (by omega) e68a rfl rfl ?_
      refine b_icmp_ge C 38 dX9_firstBroken_7 (by decide) hy2 hL1 (fun c9 => ?_) (fun c9 => ?_)
      · refine v_bipush (v := (-6)) C dX9_firstBroken_38 (by decide) ?_
        exact v_ret C dX9_firstBroken_40 rfl rfl ⟨Or.inl ⟨fun q hq => hall q (by omega), by decide⟩, hI4⟩
      · refine v_aload_n C 0 dX9_firstBroken_10 rfl rfl ?_
        refine v_iload_n C 1 dX9_firstBroken_11 rfl rfl ?_
        refine v_iload_n C 2 dX9_firstBroken_12 rfl rfl ?_
        refine v_aload_n C 0 dX9_firstBroken_13 rfl rfl ?_
        refine v_getr C 68 dX9_firstBroken_14 fX9_113 (by omega) e68a rfl rfl ?_
        refine v_iload_n C 3 dX9_firstBroken_17 rfl rfl ?_
        refine v_ald (v := od i1) C 97 dX9_firstBroken_18 (by omega) v97 (ti_in hy2 (by omega) (by omega)) (by rw [ti_cl hy2, show Int.toNat (i1 : Int) = i1 by omega]) ?_
        refine v_cVi C dX9_firstBroken_19 lX9_262 mX9_isKept 68 (by omega) e68a (by decide) rfl (y_isKept l G n ad _ hn u4 hR1 u5 hT1 hV u6 u7 v89 v90 v91 hk5 hN10 hn1 hop hln hwh x v (od i1) hlw (hrg i1 (by omega))) ⟨by decide, by decide⟩ rfl (Nat.le_of_ble_eq_true rfl) ⟨Nat.zero_le _, Nat.zero_le _⟩ (fun r10 E11 hq12 => ?_)
        obtain ⟨hkp, g2, kd2, vl2, im2, w1, w2, w3, w4, w5, w6, w7⟩ := hq12
        have f68 := w3.2.2.1
        have f97 := (w7 97 (by decide) (by decide) (by omega) (by decide) (by decide)).trans v97
        rcases hkp with ⟨rfl, hkp⟩ | ⟨rfl, hkp⟩
        · refine b_if_ne C 32 dX9_firstBroken_22 (by decide) (show (1 : Int32).toInt = 1 by decide) (fun c13 => ?_) (fun c13 => absurd c13 (by decide))
          obtain ⟨x14, ex14⟩ : ∃ y : Int32, y = y2 + 1 := ⟨_, rfl⟩
          have hx14 : x14.toInt = ((i1 : Int) + 1) := by rw [ex14]; exact ti_add hy2 (show (1 : Int32).toInt = 1 by decide) (by omega) (by omega)
          refine v_iinc (v := x14) (lv' := [(0, .ref (ad 68)), (1, .int x), (2, .int v), (3, .int x14)]) C 3 [1, 2, 3, 0] dX9_firstBroken_32 rfl (ex14.symm) (by decide) rfl ?_
          refine v_goto C 2 dX9_firstBroken_35 (by decide) ?_
          exact ih7 (i1 + 1) x14 E11 (show Int32.toInt x14 = ((i1 + 1 : Nat) : Int) by have := hx14; omega) (⟨kd2, vl2, im2, fun q g1 g2 => (w1 q g1 g2).trans (u1 q g1 g2), w3, w4, w5, w6, fun j g1 g2 g3 g4 g5 => (w7 j g1 g2 g3 g4 g5).trans (u8 j g1 g2 g3 g4 g5)⟩) (by omega) (fun j hj => by by_cases q : j = i1; (subst q; exact hkp); exact hall j (by omega)) (by omega)
        · refine b_if_ne C 32 dX9_firstBroken_22 (by decide) (show (0 : Int32).toInt = 0 by decide) (fun c15 => absurd c15 (by decide)) (fun c15 => ?_)
          refine v_aload_n C 0 dX9_firstBroken_25 rfl rfl ?_
          refine v_getr C 68 dX9_firstBroken_26 fX9_113 (by omega) f68 rfl rfl ?_
          refine v_iload_n C 3 dX9_firstBroken_29 rfl rfl ?_
          refine v_ald (v := od i1) C 97 dX9_firstBroken_30 (by omega) f97 (ti_in hy2 (by omega) (by omega)) (by rw [ti_cl hy2, show Int.toNat (i1 : Int) = i1 by omega]) ?_
          exact v_ret C dX9_firstBroken_31 rfl rfl ⟨Or.inr ⟨i1, by omega, hall, hkp, rfl⟩, ⟨kd2, vl2, im2, fun q g1 g2 => (w1 q g1 g2).trans (u1 q g1 g2), w3, w4, w5, w6, fun j g1 g2 g3 g4 g5 => (w7 j g1 g2 g3 g4 g5).trans (u8 j g1 g2 g3 g4 g5)⟩⟩
  exact LP1 100000 0 0 E (show Int32.toInt 0 = ((0 : Nat) : Int) by have := (show (0 : Int32).toInt = 0 by decide); omega) (⟨kd, vl, im, fun _ _ _ => rfl, hW, hS, h92, h93, fun _ _ _ _ _ _ => rfl⟩) (by omega) (fun j hj => absurd hj (by omega)) (by omega)

set_option maxRecDepth 20000 in
theorem y_least (l : Launch) (G : Gl) (n : Nat) (ad : Nat → Nat) (E : Nat → va_E) (hn : 98 ≤ n) {im ic md : Nat → Int32} (hW : MCal G ad E im ic md) {rf rto ron rat rbe rtd rm fv : Nat → Int32} (hR : ZMr G E rf rto ron rat rbe rtd rm fv) {TT : Nat → TST} (hS : ZMs G E 5 TT) (hTT : ∀ z, z < 5 → TT z = TTz ic md rf rto ron rat rbe rtd rm fv (im 18).toInt z) (hV : ∀ z, z < 5 → RZv ic rf rto ron rat rbe rtd rm fv z) {gop gx gy fl o0 x0 y0 : Nat → Int32} (h85 : E 85 = aI G 60 gop) (h86 : E 86 = aI G 60 gx) (h87 : E 87 = aI G 60 gy) (h88 : E 88 = aI G 6 fl) (h89 : E 89 = aI G 10 o0) (h90 : E 90 = aI G 10 x0) (h91 : E 91 = aI G 10 y0) {kd vl : Nat → Int32} (h92 : E 92 = aI G 8 kd) (h93 : E 93 = aI G 8 vl) {od : Nat → Int32} (h97 : E 97 = aI G 40000 od) {k : Nat} (hk : (im 16).toInt = (k : Int)) (hk5 : k ≤ 5) (hbl : ∀ i, 0 ≤ (fl i).toInt ∧ (fl i).toInt ≤ 10) (hOP : OPg gop) (hLN : LOK k fl gop gx gy) (p : Int32) (x : Int32) (v : Int32) (a : Int32) (c : Int32) : CtI l G yX9_least cX9_least 6 .int 10 246 (n) ad E [.ref (ad 68), .int p, .int x, .int v, .int a, .int c] (fun r E' => LEp k ic md TT (YSf md (ic 4).toInt (ic 5).toInt 100) fl gop gx gy p.toInt x.toInt v.toInt a.toInt c.toInt r.toInt) := by
  refine CtI.of (by decide) (Nat.le_of_ble_eq_true rfl) (fun X A C => ?_)
  refine v_sub (lv' := [(0, .ref (ad 68)), (1, .int p), (2, .int x), (3, .int v), (4, .int a), (5, .int c)]) [0, 1, 2, 3, 4, 5] rfl ?_
  have hP := hW.2.1
  have h68 := hW.2.2.1
  have hcy := cal_y hP
  have h8T : ∀ z, z < 5 → (TT z).1 ≤ 800 := fun z hz => by rw [hTT z hz]; exact (TTz_ok hP (hV z hz)).2
  have hokT : ∀ z, z < 5 → okT 69300000 (TT z) := fun z hz => by rw [hTT z hz]; exact (TTz_ok hP (hV z hz)).1
  refine v_iload_n C 1 dX9_least_0 rfl rfl ?_
  refine v_cSp C dX9_least_1 lX9_194 mX9_isProgram (y_isProgram l G _ ad _  p) ⟨by decide, by decide⟩ rfl (Nat.le_of_ble_eq_true rfl) ⟨Nat.zero_le _, Nat.zero_le _⟩ (fun r1 hp2 => ?_)
  rcases hp2 with ⟨rfl, hp2⟩ | ⟨rfl, hp2⟩
  · refine b_if_eq C 29 dX9_least_4 (by decide) (show (1 : Int32).toInt = 1 by decide) (fun c3 => absurd c3 (by decide)) (fun c3 => ?_)
    refine v_aload_n C 0 dX9_least_7 rfl rfl ?_
    refine v_iload_n C 2 dX9_least_8 rfl rfl ?_
    refine v_iload_n C 3 dX9_least_9 rfl rfl ?_
    refine v_cVp C dX9_least_10 lX9_259 mX9_isLaw 68 (by omega) h68 (by decide) rfl (y_isLaw l G n ad _ hn h68 hk x v) ⟨by decide, by decide⟩ rfl (Nat.le_of_ble_eq_true rfl) ⟨Nat.zero_le _, Nat.zero_le _⟩ (fun r4 hp5 => ?_)
    rcases hp5 with ⟨rfl, hlw⟩ | ⟨rfl, hlw⟩
    · refine b_if_eq C 29 dX9_least_13 (by decide) (show (1 : Int32).toInt = 1 by decide) (fun c6 => absurd c6 (by decide)) (fun c6 => ?_)
      refine v_iload C 4 dX9_least_16 rfl ?_
      refine v_iload C 5 dX9_least_18 rfl ?_
      refine v_ldcw C dX9_least_20 kX9_276 ?_
      refine v_cSp C dX9_least_23 lX9_283 mX9_isRow (y_isRow l G _ ad _ a c 2000000 (by decide)) ⟨by decide, by decide⟩ rfl (Nat.le_of_ble_eq_true rfl) ⟨Nat.zero_le _, Nat.zero_le _⟩ (fun r7 hp8 => ?_)
      rw [show (2000000 : Int32).toInt = 2000000 by decide] at hp8
      rcases hp8 with ⟨rfl, hrw⟩ | ⟨rfl, hrw⟩
      · have hrx := hrw
        unfold okRow at hrx
        refine b_if_ne C 31 dX9_least_26 (by decide) (show (1 : Int32).toInt = 1 by decide) (fun c9 => ?_) (fun c9 => absurd c9 (by decide))
        refine v_aload_n C 0 dX9_least_31 rfl rfl ?_
        refine v_iload_n C 1 dX9_least_32 rfl rfl ?_
        obtain ⟨pp, hpp0⟩ : ∃ q : Nat, p.toInt = (q : Int) := ⟨p.toInt.toNat, by omega⟩
        have hit : p.toInt.toNat = pp := by omega
        have hbi := hbl pp
        obtain ⟨N, hN⟩ : ∃ N : Nat, (fl pp).toInt = (N : Int) := ⟨(fl pp).toInt.toNat, by omega⟩
        have hNt : (fl pp).toInt.toNat = N := by omega
        refine v_cVv C dX9_least_33 lX9_219 mX9_take 68 (by omega) h68 (by decide) rfl (y_take l G n ad _ hn h68 h85 h86 h87 h88 h89 h90 h91 p hpp0 (by omega) hN (by omega)) ⟨by decide, by decide⟩ rfl (Nat.le_of_ble_eq_true rfl) ⟨Nat.zero_le _, Nat.zero_le _⟩ (fun E10 hq11 => ?_)
        obtain ⟨fo, fx, fy, t68, t89, t90, t91, hag, hOt⟩ := hq11
        have t92 := (hOt 92 (by decide) (by decide) (by decide) (by decide)).trans h92
        have t93 := (hOt 93 (by decide) (by decide) (by decide) (by decide)).trans h93
        have hWt := hW.same (im1 := va_up im 32 (fl pp)) (fun q hq => if_neg (by omega)) t68 (hOt 69 (by decide) (by decide) (by decide) (by decide)) (hOt 70 (by decide) (by decide) (by decide) (by decide))
        have hRt := hR.go (fun j g1 g2 => hOt j (by omega) (by omega) (by omega) (by omega))
        have hSt := hS.go (fun j g1 g2 => hOt j (by omega) (by omega) (by omega) (by omega))
        have hop : ∀ j, j < N → 0 ≤ (fo j).toInt ∧ (fo j).toInt ≤ 11 := fun j hj => by rw [(hag j hj).1]; exact hOP _ (by omega)
        have hln : ∀ j, j < N → okLn (k : Int) (fo j).toInt (fx j).toInt (fy j).toInt := fun j hj => by rw [(hag j hj).1, (hag j hj).2.1, (hag j hj).2.2]; exact hLN pp (by omega) j (by omega)
        have hcg : ∀ j, j < N → fo j = fP gop pp j := fun j hj => (hag j hj).1
        have hnt : (va_up im 32 (fl pp) 32).toInt = (N : Int) := hN
        refine v_aload_n C 0 dX9_least_36 rfl rfl ?_
        refine v_cVi C dX9_least_37 lX9_222 mX9_mixOf 68 (by omega) t68 (by decide) rfl (m_mixOf l G n ad _ hn t68 t92 t89 (by omega) (by omega) (fun j hj => hop j (by omega))) ⟨by decide, by decide⟩ rfl (Nat.le_of_ble_eq_true rfl) ⟨Nat.zero_le _, Nat.zero_le _⟩ (fun r12 E13 hq14 => ?_)
        obtain ⟨hmx, im5, kd5, m68, hi5, -, -, m92, -, hOm⟩ := hq14
        rw [hnt, show ((N : Nat) : Int).toNat = N by omega] at hmx
        have hmi := MX_iff (ops := fo) (n := N)
        have hmc : MIS fo N = MIS (fP gop pp) N := MIS_congr hcg
        have m89 := (hOm 89 (by decide) (by decide)).trans t89
        have m90 := (hOm 90 (by decide) (by decide)).trans t90
        have m91 := (hOm 91 (by decide) (by decide)).trans t91
        have m93 := (hOm 93 (by decide) (by decide)).trans t93
        have hWm := hWt.same (fun q hq => hi5 q (by omega)) m68 (hOm 69 (by decide) (by decide)) (hOm 70 (by decide) (by decide))
        have hRm := hRt.go (fun j g1 g2 => hOm j (by omega) (by omega))
        have hSm := hSt.go (fun j g1 g2 => hOm j (by omega) (by omega))
        have hTm : ∀ z, z < 5 → TT z = TTz ic md rf rto ron rat rbe rtd rm fv (im5 18).toInt z := fun z hz => by rw [hi5 18 (by decide)]; exact hTT z hz
        have hnm : (im5 32).toInt = (N : Int) := by rw [hi5 32 (by decide)]; exact hnt
        refine v_bipush (v := (-6)) C dX9_least_40 (by decide) ?_
        refine b_icmp_eq C 48 dX9_least_42 (by decide) hmx (show ((-6) : Int32).toInt = (-6) by decide) (fun c15 => ?_) (fun c15 => ?_)
        · obtain ⟨Kw, hwh⟩ := MIS_whole (ops := fo) (n := N) (hmi.mp (by omega))
          have m97 := (hOm 97 (by decide) (by decide)).trans ((hOt 97 (by decide) (by decide) (by decide) (by decide)).trans h97)
          have hk6 : (im5 16).toInt = (k : Int) := by rw [hi5 16 (by decide)]; exact hk
          refine v_aload_n C 0 dX9_least_48 rfl rfl ?_
          refine v_iload C 4 dX9_least_49 rfl ?_
          refine v_iload C 4 dX9_least_51 rfl ?_
          refine v_iload C 5 dX9_least_53 rfl ?_
          refine v_iadd C dX9_least_55 ?_
          refine v_top (fun x16 ex16 => ?_)
          have hx16 : x16.toInt = (a.toInt + c.toInt) := by rw [ex16]; exact ti_add (rfl : Int32.toInt a = _) (rfl : Int32.toInt c = _) (by omega) (by omega)
          have hxe := hx16
          have hab : okOD a.toInt x16.toInt := by unfold okOD; omega
          refine v_cVv C dX9_least_56 lX9_280 mX9_findOdds 68 (by omega) m68 (by decide) rfl (y_findOdds l G n ad _ hn hWm hRm hSm hTm hV m97 hk6 hk5 a x16 hab) ⟨by decide, by decide⟩ rfl (Nat.le_of_ble_eq_true rfl) ⟨Nat.zero_le _, Nat.zero_le _⟩ (fun E17 hq18 => ?_)
          obtain ⟨im7, od7, L, f1, f2, f3, f4, f5, f6, f7, f8⟩ := hq18
          have hrg : ∀ q, q < L → 0 ≤ (od7 q).toInt ∧ (od7 q).toInt < 60000000 := fun q hq => by have g : a.toInt ≤ (od7 q).toInt ∧ (od7 q).toInt ≤ x16.toInt := (f7.2.1 q hq).1; have h9 := hab; unfold okOD at h9; omega
          rw [hxe] at f7
          have g68 := f4.2.2.1
          have hR7 := hRm.go (fun j g1 g2 => f8 j (by omega) (by omega) (by omega) (by omega))
          have hT7 : ∀ z, z < 5 → TT z = TTz ic md rf rto ron rat rbe rtd rm fv (im7 18).toInt z := fun z hz => by rw [f1 18 (by decide) (by decide)]; exact hTm z hz
          have hn7 : (im7 32).toInt = (N : Int) := by rw [f1 32 (by decide) (by decide)]; exact hnm
          have k89 := (f8 89 (by decide) (by decide) (by omega) (by decide)).trans m89
          have k90 := (f8 90 (by decide) (by decide) (by omega) (by decide)).trans m90
          have k91 := (f8 91 (by decide) (by decide) (by omega) (by decide)).trans m91
          have k92 := (f8 92 (by decide) (by decide) (by omega) (by decide)).trans m92
          have k93 := (f8 93 (by decide) (by decide) (by omega) (by decide)).trans m93
          refine v_aload_n C 0 dX9_least_59 rfl rfl ?_
          refine v_iload_n C 2 dX9_least_60 rfl rfl ?_
          refine v_iload_n C 3 dX9_least_61 rfl rfl ?_
          refine v_cVi C dX9_least_62 lX9_286 mX9_firstBroken 68 (by omega) g68 (by decide) rfl (y_firstBroken l G n ad _ hn f4 hR7 f5 hT7 hV k92 k93 k89 k90 k91 hk5 (by omega) hn7 hop hln hwh f6 f2 f3 hrg x v hlw) ⟨by decide, by decide⟩ rfl (Nat.le_of_ble_eq_true rfl) ⟨Nat.zero_le _, Nat.zero_le _⟩ (fun r19 E20 hq21 => ?_)
          have hfb := FB_cg (Q := KPt ic md TT (fP gop pp) (fP gx pp) (fP gy pp) N x.toInt v.toInt) hq21.1 (fun m => KPt_cg (ic := ic) (md := md) (TT := TT) (law := x.toInt) (v := v.toInt) (m := m) (go := fP gop pp) (gx := fP gx pp) (gy := fP gy pp) hag)
          exact v_ret C dX9_least_65 rfl rfl (Or.inr (Or.inr ⟨⟨by omega, hlw, hrw⟩, (by rw [hit, hNt, ← hmc]; exact hmi.mp (by omega)), L, _, f7, (by rw [hit, hNt]; exact hfb)⟩))
        · refine v_bipush (v := (-4)) C dX9_least_45 (by decide) ?_
          exact v_ret C dX9_least_47 rfl rfl (Or.inr (Or.inl ⟨⟨by omega, hlw, hrw⟩, (by rw [hit, hNt, ← hmc]; intro q; have := hmi.mpr q; omega), by decide⟩))
      · refine b_if_ne C 31 dX9_least_26 (by decide) (show (0 : Int32).toInt = 0 by decide) (fun c22 => absurd c22 (by decide)) (fun c22 => ?_)
        refine v_iconst (v := (-1)) C dX9_least_29 (by decide) ?_
        exact v_ret C dX9_least_30 rfl rfl (Or.inl ⟨(fun q => by obtain ⟨q1, q2, q3⟩ := q; first | exact absurd q2 hlw | exact absurd q3 hrw | omega), by decide⟩)
    · refine b_if_eq C 29 dX9_least_13 (by decide) (show (0 : Int32).toInt = 0 by decide) (fun c23 => ?_) (fun c23 => absurd c23 (by decide))
      refine v_iconst (v := (-1)) C dX9_least_29 (by decide) ?_
      exact v_ret C dX9_least_30 rfl rfl (Or.inl ⟨(fun q => by obtain ⟨q1, q2, q3⟩ := q; first | exact absurd q2 hlw | exact absurd q3 hrw | omega), by decide⟩)
  · refine b_if_eq C 29 dX9_least_4 (by decide) (show (0 : Int32).toInt = 0 by decide) (fun c24 => ?_) (fun c24 => absurd c24 (by decide))
    refine v_iconst (v := (-1)) C dX9_least_29 (by decide) ?_
    exact v_ret C dX9_least_30 rfl rfl (Or.inl ⟨(fun q => by obtain ⟨q1, q2, q3⟩ := q; first | exact absurd q2 hlw | exact absurd q3 hrw | omega), by decide⟩)

