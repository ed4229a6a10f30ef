theorem FBs.pre {G : Gl} {ad : Nat → Nat} {E E0 E1 : Nat → va_E} {im im0 ic md : Nat → Int32} {TT : Nat → TST} (h : FBs G ad E0 E1 im0 ic md TT) (hi : ∀ q, q ≠ 35 → im0 q = im q) (ho : ∀ j, j ≠ 68 → j ≠ 92 → E0 j = E j) : FBs G ad E E1 im ic md TT := by
  obtain ⟨kd, vl, im1, a1, a2, a3, a4, a5, a6⟩ := h
  exact ⟨kd, vl, im1, fun q g1 g2 => (a1 q g1 g2).trans (hi q g2), a2, a3, a4, a5, fun j b1 b2 b3 b4 b5 => (a6 j b1 b2 b3 b4 b5).trans (ho j b1 b4)⟩
/-- what a search for a change leaves of the reference -/
def MSs (G : Gl) (ad : Nat → Nat) (E E1 : Nat → va_E) (im ic md : Nat → Int32) (TT : Nat → TST) : Prop := ∃ o1 x1 y1 kd1 vl1 im1 : Nat → Int32, (∀ q, q ≠ 7 → q ≠ 32 → q ≠ 35 → im1 q = im q) ∧ (0 ≤ (im1 32).toInt ∧ (im1 32).toInt ≤ 10) ∧ MCal G ad E1 im1 ic md ∧ ZMs G E1 5 TT ∧ E1 89 = aI G 10 o1 ∧ E1 90 = aI G 10 x1 ∧ E1 91 = aI G 10 y1 ∧ E1 92 = aI G 8 kd1 ∧ E1 93 = aI G 8 vl1 ∧ ∀ j, j ≠ 68 → j ≠ 70 → (j < 79 ∨ 84 < j) → (j < 89 ∨ 93 < j) → E1 j = E j
theorem MSs.next {G : Gl} {ad : Nat → Nat} {E E0 E1 : Nat → va_E} {im im0 ic md o1 x1 y1 : Nat → Int32} {TT : Nat → TST} (hi : ∀ q, q ≠ 7 → q ≠ 32 → q ≠ 35 → im0 q = im q) (h32 : 0 ≤ (im0 32).toInt ∧ (im0 32).toInt ≤ 10) (ho : ∀ j, j ≠ 68 → j ≠ 70 → (j < 79 ∨ 84 < j) → (j < 89 ∨ 93 < j) → E0 j = E j) (h89 : E0 89 = aI G 10 o1) (h90 : E0 90 = aI G 10 x1) (h91 : E0 91 = aI G 10 y1) (h : FBs G ad E0 E1 im0 ic md TT) : MSs G ad E E1 im ic md TT := by
  obtain ⟨kd, vl, im1, a1, a2, a3, a4, a5, a6⟩ := h
  exact ⟨o1, x1, y1, kd, vl, im1, fun q g1 g2 g3 => (a1 q g1 g3).trans (hi q g1 g2 g3), (by rw [a1 32 (by decide) (by decide)]; exact h32), a2, a3, (a6 89 (by decide) (by decide) (by omega) (by decide) (by decide)).trans h89, (a6 90 (by decide) (by decide) (by omega) (by decide) (by decide)).trans h90, (a6 91 (by decide) (by decide) (by omega) (by decide) (by decide)).trans h91, a4, a5, fun j b1 b2 b3 b4 => (a6 j b1 b2 b3 (by omega) (by omega)).trans (ho j b1 b2 b3 b4)⟩
theorem MSs.tr {G : Gl} {ad : Nat → Nat} {E E0 E1 : Nat → va_E} {im im0 ic md : Nat → Int32} {TT : Nat → TST} (hi : ∀ q, q ≠ 7 → q ≠ 32 → q ≠ 35 → im0 q = im q) (ho : ∀ j, j ≠ 68 → j ≠ 70 → (j < 79 ∨ 84 < j) → (j < 89 ∨ 93 < j) → E0 j = E j) (h : MSs G ad E0 E1 im0 ic md TT) : MSs G ad E E1 im ic md TT := by
  obtain ⟨o1, x1, y1, kd, vl, im1, a1, a2, a3, a4, a5, a6, a7, a8, a9, a10⟩ := h
  exact ⟨o1, x1, y1, kd, vl, im1, fun q g1 g2 g3 => (a1 q g1 g2 g3).trans (hi q g1 g2 g3), a2, a3, a4, a5, a6, a7, a8, a9, fun j b1 b2 b3 b4 => (a10 j b1 b2 b3 b4).trans (ho j b1 b2 b3 b4)⟩

set_option maxRecDepth 20000 in
theorem y_isRight (l : Launch) (G : Gl) (n : Nat) (ad : Nat → Nat) (E : Nat → va_E) (hn : 98 ≤ n) {im ic md : Nat → Int32} (hW : MCal G ad E im ic md) {rf rto ron rat rbe rtd rm fv : Nat → Int32} (hR : ZMr G E rf rto ron rat rbe rtd rm fv) {TT : Nat → TST} (hS : ZMs G E 5 TT) (hTT : ∀ z, z < 5 → TT z = TTz ic md rf rto ron rat rbe rtd rm fv (im 18).toInt z) (hV : ∀ z, z < 5 → RZv ic rf rto ron rat rbe rtd rm fv z) {kd vl : Nat → Int32} (h92 : E 92 = aI G 8 kd) (h93 : E 93 = aI G 8 vl) {fo fx fy : Nat → Int32} (h89 : E 89 = aI G 10 fo) (h90 : E 90 = aI G 10 fx) (h91 : E 91 = aI G 10 fy) {k N : Nat} (hk5 : k ≤ 5) (hN10 : N ≤ 10) (hnN : (im 32).toInt = (N : Int)) (hls : okLs k N fo fx fy) {od : Nat → Int32} (h97 : E 97 = aI G 40000 od) {L : Nat} (hL : (im 41).toInt = (L : Int)) (hL4 : L ≤ 26002) (hrg : ∀ q, q < L → 0 ≤ (od q).toInt ∧ (od q).toInt < 60000000) (x : Int32) (v : Int32) (hlw : okLW (k : Int) x.toInt v.toInt) : CtI l G yX9_isRight cX9_isRight 3 .boolean 10 246 (n) ad E [.ref (ad 68), .int x, .int v] (fun r E' => ((r = 1 ∧ (MIS fo N = -1 ∧ ∀ q, q < L → KPt ic md TT fo fx fy N x.toInt v.toInt (od q).toInt)) ∨ (r = 0 ∧ ¬ (MIS fo N = -1 ∧ ∀ q, q < L → KPt ic md TT fo fx fy N x.toInt v.toInt (od q).toInt))) ∧ FBs G ad E E' im ic md TT) := by
  refine CtI.of (by decide) (Nat.le_of_ble_eq_true rfl) (fun X A C => ?_)
  refine v_sub (lv' := [(0, .ref (ad 68)), (1, .int x), (2, .int v)]) [0, 1, 2] rfl ?_
  have hP := hW.2.1
  have h68 := hW.2.2.1
  have hcy := cal_y hP
  have h8T : ∀ z, z < 5 → (TT z).1 ≤ 800 := fun z hz => by rw [hTT z hz]; exact (TTz_ok hP (hV z hz)).2
  have hokT : ∀ z, z < 5 → okT 69300000 (TT z) := fun z hz => by rw [hTT z hz]; exact (TTz_ok hP (hV z hz)).1
  have hop : ∀ j, j < N → 0 ≤ (fo j).toInt ∧ (fo j).toInt ≤ 11 := fun j hj => (okLn_b hk5 (hls j hj)).1
  refine v_aload_n C 0 dX9_isRight_0 rfl rfl ?_
  refine v_cVi C dX9_isRight_1 lX9_222 mX9_mixOf 68 (by omega) h68 (by decide) rfl (m_mixOf l G n ad _ hn h68 h92 h89 (by omega) (by omega) (fun j hj => hop j (by omega))) ⟨by decide, by decide⟩ rfl (Nat.le_of_ble_eq_true rfl) ⟨Nat.zero_le _, Nat.zero_le _⟩ (fun r1 E2 hq3 => ?_)
  obtain ⟨hmx, im5, kd5, m68, hi5, -, -, m92, -, hOm⟩ := hq3
  rw [hnN, show ((N : Nat) : Int).toNat = N by omega] at hmx
  have hmi := MX_iff (ops := fo) (n := N)
  have m89 := (hOm 89 (by decide) (by decide)).trans h89
  have m90 := (hOm 90 (by decide) (by decide)).trans h90
  have m91 := (hOm 91 (by decide) (by decide)).trans h91
  have m93 := (hOm 93 (by decide) (by decide)).trans h93
  have m97 := (hOm 97 (by decide) (by decide)).trans h97
  have hWm := hW.same (fun q hq => hi5 q (by omega)) m68 (hOm 69 (by decide) (by decide)) (hOm 70 (by decide) (by decide))
  have hRm := hR.go (fun j g1 g2 => hOm j (by omega) (by omega))
  have hSm := hS.go (fun j g1 g2 => hOm j (by omega) (by omega))
  have hTm : ∀ z, z < 5 → TT z = TTz ic md rf rto ron rat rbe rtd rm fv (im5 18).toInt z := fun z hz => by rw [hi5 18 (by decide)]; exact hTT z hz
  have hnm : (im5 32).toInt = (N : Int) := by rw [hi5 32 (by decide)]; exact hnN
  have hLm : (im5 41).toInt = (L : Int) := by rw [hi5 41 (by decide)]; exact hL
  have hFm : FBs G ad E E2 im ic md TT := ⟨kd5, vl, im5, fun q _ g2 => hi5 q g2, hWm, hSm, m92, m93, fun j g1 _ _ g4 _ => hOm j g1 g4⟩
  refine v_bipush (v := (-6)) C dX9_isRight_4 (by decide) ?_
  refine b_icmp_ne C 24 dX9_isRight_6 (by decide) hmx (show ((-6) : Int32).toInt = (-6) by decide) (fun c4 => ?_) (fun c4 => ?_)
  · refine v_iconst (v := 0) C dX9_isRight_24 (by decide) ?_
    exact v_ret C dX9_isRight_25 rfl rfl ⟨Or.inr ⟨rfl, fun q => by have := hmi.mpr q.1; omega⟩, hFm⟩
  · refine v_aload_n C 0 dX9_isRight_9 rfl rfl ?_
    refine v_iload_n C 1 dX9_isRight_10 rfl rfl ?_
    refine v_iload_n C 2 dX9_isRight_11 rfl rfl ?_
    have hms := hmi.mp (by omega)
    obtain ⟨Kw, hwh⟩ := MIS_whole (ops := fo) (n := N) hms
    refine v_cVi C dX9_isRight_12 lX9_286 mX9_firstBroken 68 (by omega) m68 (by decide) rfl (y_firstBroken l G n ad _ hn hWm hRm hSm hTm hV m92 m93 m89 m90 m91 hk5 hN10 hnm hop hls hwh m97 hLm hL4 hrg x v hlw) ⟨by decide, by decide⟩ rfl (Nat.le_of_ble_eq_true rfl) ⟨Nat.zero_le _, Nat.zero_le _⟩ (fun r5 E6 hq7 => ?_)
    obtain ⟨hfb, hFf⟩ := hq7
    have hFn := hFf.pre hi5 hOm
    rcases hfb with ⟨hall, hrv⟩ | ⟨i9, hi9, hbe, hnk, hrv⟩
    · obtain rfl : r5 = -6 := ti_ext (hrv.trans (by decide))
      refine v_bipush (v := (-6)) C dX9_isRight_15 (by decide) ?_
      refine b_icmp_ne C 24 dX9_isRight_17 (by decide) (show ((-6) : Int32).toInt = (-6) by decide) (show ((-6) : Int32).toInt = (-6) by decide) (fun c8 => by exfalso; omega) (fun c8 => ?_)
      refine v_iconst (v := 1) C dX9_isRight_20 (by decide) ?_
      refine v_goto C 25 dX9_isRight_21 (by decide) ?_
      exact v_ret C dX9_isRight_25 rfl rfl ⟨Or.inl ⟨rfl, hms, hall⟩, hFn⟩
    · have hr9 : 0 ≤ r5.toInt := by have := hrg i9 hi9; dsimp only at hrv; omega
      refine v_bipush (v := (-6)) C dX9_isRight_15 (by decide) ?_
      refine b_icmp_ne C 24 dX9_isRight_17 (by decide) (rfl : Int32.toInt r5 = _) (show ((-6) : Int32).toInt = (-6) by decide) (fun c9 => ?_) (fun c9 => by exfalso; omega)
      refine v_iconst (v := 0) C dX9_isRight_24 (by decide) ?_
      exact v_ret C dX9_isRight_25 rfl rfl ⟨Or.inr ⟨rfl, fun q => hnk (q.2 i9 hi9)⟩, hFn⟩

set_option maxRecDepth 20000 in
theorem y_mendsOne (l : Launch) (G : Gl) (n : Nat) (ad : Nat → Nat) (E : Nat → va_E) (hn : 98 ≤ n) {im ic md : Nat → Int32} (hW : MCal G ad E im ic md) {rf rto ron rat rbe rtd rm fv : Nat → Int32} (hR : ZMr G E rf rto ron rat rbe rtd rm fv) {TT : Nat → TST} (hS : ZMs G E 5 TT) (hTT : ∀ z, z < 5 → TT z = TTz ic md rf rto ron rat rbe rtd rm fv (im 18).toInt z) (hV : ∀ z, z < 5 → RZv ic rf rto ron rat rbe rtd rm fv z) {gop gx gy fl o0 x0 y0 : Nat → Int32} (h85 : E 85 = aI G 60 gop) (h86 : E 86 = aI G 60 gx) (h87 : E 87 = aI G 60 gy) (h88 : E 88 = aI G 6 fl) (h89 : E 89 = aI G 10 o0) (h90 : E 90 = aI G 10 x0) (h91 : E 91 = aI G 10 y0) {kd vl : Nat → Int32} (h92 : E 92 = aI G 8 kd) (h93 : E 93 = aI G 8 vl) {od : Nat → Int32} (h97 : E 97 = aI G 40000 od) {L : Nat} (hL : (im 41).toInt = (L : Int)) (hL4 : L ≤ 26002) (hrg : ∀ q, q < L → 0 ≤ (od q).toInt ∧ (od q).toInt < 60000000) {k : Nat} (hk : (im 16).toInt = (k : Int)) (hk5 : k ≤ 5) (hOP : OPg gop) (hLN : LOK k fl gop gx gy) {pp N : Nat} (hpp : pp < 6) (hN : (fl pp).toInt = (N : Int)) (hN10 : N ≤ 10) (h32 : 0 ≤ (im 32).toInt ∧ (im 32).toInt ≤ 10) {Y La Lb : Int} (hen : isEn (isOd k TT Y La Lb) L (fun q => (od q).toInt)) (p : Int32) (x : Int32) (v : Int32) (hp : p.toInt = (pp : Int)) (hlw : okLW (k : Int) x.toInt v.toInt) : CtI l G yX9_mendsOne cX9_mendsOne 7 .boolean 11 268 (n) ad E [.ref (ad 68), .int p, .int x, .int v] (fun r E' => ((r = 1 ∧ MD1 k (RTp k ic md TT Y La Lb x.toInt v.toInt N) N (fP gop pp) (fP gx pp) (fP gy pp)) ∨ (r = 0 ∧ ¬ MD1 k (RTp k ic md TT Y La Lb x.toInt v.toInt N) N (fP gop pp) (fP gx pp) (fP gy pp))) ∧ MSs G ad E E' im ic md TT) := by
  refine CtI.of (by decide) (Nat.le_of_ble_eq_true rfl) (fun X A C => ?_)
  refine v_sub (lv' := [(0, .ref (ad 68)), (1, .int p), (2, .int x), (3, .int v)]) [0, 1, 2, 3] rfl ?_
  have hP := hW.2.1
  have h68 := hW.2.2.1
  have hcy := cal_y hP
  have h8T : ∀ z, z < 5 → (TT z).1 ≤ 800 := fun z hz => by rw [hTT z hz]; exact (TTz_ok hP (hV z hz)).2
  have hokT : ∀ z, z < 5 → okT 69300000 (TT z) := fun z hz => by rw [hTT z hz]; exact (TTz_ok hP (hV z hz)).1
  have hlsP : okLs k N (fP gop pp) (fP gx pp) (fP gy pp) := fun j hj => hLN pp hpp j (by omega)
  refine v_iconst (v := 0) C dX9_mendsOne_0 (by decide) ?_
  refine v_istore (lv' := [(0, .ref (ad 68)), (1, .int p), (2, .int x), (3, .int v), (4, .int 0)]) C [1, 2, 3, 4, 0] dX9_mendsOne_1 (by decide) rfl ?_
  have LP1 : ∀ (t : Nat) (l1 : Nat) (y2 : Int32) (E3 : Nat → va_E), (y2.toInt = (l1 : Int)) → (MSs G ad E E3 im ic md TT) → (l1 ≤ N) → (∀ l c, l < l1 → c < anN k (fP gop pp l).toInt (fP gx pp l).toInt → ¬ RTp k ic md TT Y La Lb x.toInt v.toInt N (edO (fP gop pp) l) (edX (fP gop pp) (fP gx pp) l c) (edY (fP gop pp) (fP gy pp) l c)) → (N : Int) - (l1 : Int) < (t : Int) → V X G A 7 (QI X G A (n) ad (fun r E' => ((r = 1 ∧ MD1 k (RTp k ic md TT Y La Lb x.toInt v.toInt N) N (fP gop pp) (fP gx pp) (fP gy pp)) ∨ (r = 0 ∧ ¬ MD1 k (RTp k ic md TT Y La Lb x.toInt v.toInt N) N (fP gop pp) (fP gx pp) (fP gy pp))) ∧ MSs G ad E E' im ic md TT)) (n) ad 0 0 E3 3 [(0, .ref (ad 68)), (1, .int p), (2, .int x), (3, .int v), (4, .int y2)] [] := by
    intro t6
    induction t6 with
    | zero => intro l1 y2 E3 hy2 hI4 hq5 hallO hm8; exfalso; omega
    | succ t6 ih7 =>
      intro l1 y2 E3 hy2 hI4 hq5 hallO hm8
      obtain ⟨o9, x9, y9, kd9, vl9, im9, a9, b329, W9, S9, r899, r909, r919, r929, r939, O9⟩ := id hI4
      have e689 := W9.2.2.1
      have f889 := (O9 88 (by decide) (by decide) (by omega) (by omega)).trans h88
      refine v_iload C 4 dX9_mendsOne_3 rfl ?_
      refine v_aload_n C 0 dX9_mendsOne_5 rfl rfl ?_
      refine v_getr C 68 dX9_mendsOne_6 fX9_85 (by omega) e689 rfl rfl ?_
      refine v_iload_n C 1 dX9_mendsOne_9 rfl rfl ?_
      refine v_ald (v := fl pp) C 88 dX9_mendsOne_10 (by omega) f889 (ti_in hp (by omega) (by omega)) (by rw [ti_cl hp, show Int.toNat (pp : Int) = pp by omega]) ?_
      refine b_icmp_ge C 68 dX9_mendsOne_11 (by decide) hy2 hN (fun c10 => ?_) (fun c10 => ?_)
      · refine v_iconst (v := 0) C dX9_mendsOne_68 (by decide) ?_
        exact v_ret C dX9_mendsOne_69 rfl rfl ⟨Or.inr ⟨rfl, fun q => by obtain ⟨l9, c9, g1, g2, g3⟩ := q; exact hallO l9 c9 (by omega) g2 g3⟩, hI4⟩
      · refine v_iconst (v := 1) C dX9_mendsOne_14 (by decide) ?_
        refine v_istore (lv' := [(0, .ref (ad 68)), (1, .int p), (2, .int x), (3, .int v), (4, .int y2), (5, .int 1)]) C [1, 2, 3, 4, 5, 0] dX9_mendsOne_15 (by decide) rfl ?_
        have h5a := an_5 (o := (fP gop pp l1).toInt) (x := (fP gx pp l1).toInt) hk5
        refine v_iconst (v := 0) C dX9_mendsOne_17 (by decide) ?_
        refine v_istore (lv' := [(0, .ref (ad 68)), (1, .int p), (2, .int x), (3, .int v), (4, .int y2), (5, .int 1), (6, .int 0)]) C [1, 2, 3, 4, 5, 6, 0] dX9_mendsOne_18 (by decide) rfl ?_
        have LP11 : ∀ (t : Nat) (mo : Int32) (c1 : Nat) (y13 : Int32) (E14 : Nat → va_E), (y13.toInt = (c1 : Int)) → (MSs G ad E E14 im ic md TT) → (c1 ≤ anN k (fP gop pp l1).toInt (fP gx pp l1).toInt + 1) → (mo.toInt = 0 → anN k (fP gop pp l1).toInt (fP gx pp l1).toInt ≤ c1) → (mo.toInt ≠ 0 → c1 ≤ anN k (fP gop pp l1).toInt (fP gx pp l1).toInt) → (∀ c, c < c1 → c < anN k (fP gop pp l1).toInt (fP gx pp l1).toInt → ¬ RTp k ic md TT Y La Lb x.toInt v.toInt N (edO (fP gop pp) l1) (edX (fP gop pp) (fP gx pp) l1 c) (edY (fP gop pp) (fP gy pp) l1 c)) → ((anN k (fP gop pp l1).toInt (fP gx pp l1).toInt : Nat) : Int) + 2 - (c1 : Int) < (t : Int) → V X G A 7 (QI X G A (n) ad (fun r E' => ((r = 1 ∧ MD1 k (RTp k ic md TT Y La Lb x.toInt v.toInt N) N (fP gop pp) (fP gx pp) (fP gy pp)) ∨ (r = 0 ∧ ¬ MD1 k (RTp k ic md TT Y La Lb x.toInt v.toInt N) N (fP gop pp) (fP gx pp) (fP gy pp))) ∧ MSs G ad E E' im ic md TT)) (n) ad 0 0 E14 20 [(0, .ref (ad 68)), (1, .int p), (2, .int x), (3, .int v), (4, .int y2), (5, .int mo), (6, .int y13)] [] := by
          intro t16
          induction t16 with
          | zero => intro mo c1 y13 E14 hy13 hI15 hc5 hmz hmn hallI hm18; exfalso; omega
          | succ t16 ih17 =>
            intro mo c1 y13 E14 hy13 hI15 hc5 hmz hmn hallI hm18
            obtain ⟨o19, x19, y19, kd19, vl19, im19, a19, b3219, W19, S19, r8919, r9019, r9119, r9219, r9319, O19⟩ := id hI15
            have e6819 := W19.2.2.1
            have f8819 := (O19 88 (by decide) (by decide) (by omega) (by omega)).trans h88
            have h5a := an_5 (o := (fP gop pp l1).toInt) (x := (fP gx pp l1).toInt) hk5
            refine v_iload C 5 dX9_mendsOne_20 rfl ?_
            refine b_if_eq C 62 dX9_mendsOne_22 (by decide) (rfl : Int32.toInt mo = _) (fun c20 => ?_) (fun c20 => ?_)
            · obtain ⟨x21, ex21⟩ : ∃ y : Int32, y = y2 + 1 := ⟨_, rfl⟩
              have hx21 : x21.toInt = ((l1 : Int) + 1) := by rw [ex21]; exact ti_add hy2 (show (1 : Int32).toInt = 1 by decide) (by omega) (by omega)
              refine v_iinc (v := x21) (lv' := [(0, .ref (ad 68)), (1, .int p), (2, .int x), (3, .int v), (4, .int x21), (5, .int mo), (6, .int y13)]) C 4 [1, 2, 3, 4, 0, 5, 6] dX9_mendsOne_62 rfl (ex21.symm) (by decide) rfl ?_
              refine v_goto C 3 dX9_mendsOne_65 (by decide) ?_
              refine v_sub (lv' := [(0, .ref (ad 68)), (1, .int p), (2, .int x), (3, .int v), (4, .int x21)]) [0, 1, 2, 3, 4] rfl ?_
              exact ih7 (l1 + 1) x21 E14 (show Int32.toInt x21 = ((l1 + 1 : Nat) : Int) by have := hx21; omega) (hI15) (by omega) (fun l c g1 g2 => by by_cases q : l < l1; (exact hallO l c q g2); (have e9 : l = l1 := (by omega); subst e9; exact hallI c (by have := hmz (by omega); omega) g2)) (by omega)
            · have hc9 := hmn (by omega)
              refine v_aload_n C 0 dX9_mendsOne_25 rfl rfl ?_
              refine v_iload_n C 1 dX9_mendsOne_26 rfl rfl ?_
              refine v_cVv C dX9_mendsOne_27 lX9_219 mX9_take 68 (by omega) e6819 (by decide) rfl (y_take l G n ad _ hn e6819 ((O19 85 (by decide) (by decide) (by omega) (by omega)).trans h85) ((O19 86 (by decide) (by decide) (by omega) (by omega)).trans h86) ((O19 87 (by decide) (by decide) (by omega) (by omega)).trans h87) f8819 r8919 r9019 r9119 p hp hpp hN hN10) ⟨by decide, by decide⟩ rfl (Nat.le_of_ble_eq_true rfl) ⟨Nat.zero_le _, Nat.zero_le _⟩ (fun E22 hq23 => ?_)
              obtain ⟨fo24, fx24, fy24, t6824, t8924, t9024, t9124, ag24, T24⟩ := hq23
              have tW24 := W19.same (im1 := va_up im19 32 (fl pp)) (fun q hq => if_neg (by omega)) t6824 (T24 69 (by decide) (by decide) (by decide) (by decide)) (T24 70 (by decide) (by decide) (by decide) (by decide))
              have tS24 := S19.go (fun j g1 g2 => T24 j (by omega) (by omega) (by omega) (by omega))
              have tO24 : ∀ j, j ≠ 68 → j ≠ 70 → (j < 79 ∨ 84 < j) → (j < 89 ∨ 93 < j) → E22 j = E j := fun j g1 g2 g3 g4 => (T24 j g1 (by omega) (by omega) (by omega)).trans (O19 j g1 g2 g3 g4)
              have ti24 : ∀ q, q ≠ 7 → q ≠ 32 → q ≠ 35 → va_up im19 32 (fl pp) q = im q := fun q g1 g2 g3 => (if_neg g2).trans (a19 q g1 g2 g3)
              have tR24 := hR.go (fun j g1 g2 => tO24 j (by omega) (by omega) (by omega) (by omega))
              have tT24 : ∀ z, z < 5 → TT z = TTz ic md rf rto ron rat rbe rtd rm fv (va_up im19 32 (fl pp) 18).toInt z := fun z hz => by rw [ti24 18 (by decide) (by decide) (by decide)]; exact hTT z hz
              have tk24 : (va_up im19 32 (fl pp) 16).toInt = (k : Int) := by rw [ti24 16 (by decide) (by decide) (by decide)]; exact hk
              have tL24 : (va_up im19 32 (fl pp) 41).toInt = (L : Int) := by rw [ti24 41 (by decide) (by decide) (by decide)]; exact hL
              have tn24 : (va_up im19 32 (fl pp) 32).toInt = (N : Int) := hN
              have tb24 : 0 ≤ (va_up im19 32 (fl pp) 32).toInt ∧ (va_up im19 32 (fl pp) 32).toInt ≤ 10 := by omega
              have t9224 := (T24 92 (by decide) (by decide) (by decide) (by decide)).trans r9219
              have t9324 := (T24 93 (by decide) (by decide) (by decide) (by decide)).trans r9319
              have t9724 := (tO24 97 (by decide) (by decide) (by omega) (by omega)).trans h97
              have t8824 := (tO24 88 (by decide) (by decide) (by omega) (by omega)).trans h88
              have ls24 : okLs k N fo24 fx24 fy24 := okLs_cg (fun q hq => ag24 q hq) hlsP
              have tM24 : MSs G ad E E22 im ic md TT := MSs.next ti24 tb24 tO24 t8924 t9024 t9124 ⟨kd19, vl19, va_up im19 32 (fl pp), fun _ _ _ => rfl, tW24, tS24, t9224, t9324, fun _ _ _ _ _ _ => rfl⟩
              refine v_aload_n C 0 dX9_mendsOne_30 rfl rfl ?_
              refine v_iload C 4 dX9_mendsOne_31 rfl ?_
              refine v_iload C 6 dX9_mendsOne_33 rfl ?_
              refine v_cVi C dX9_mendsOne_35 lX9_292 mX9_changeLine 68 (by omega) t6824 (by decide) rfl (y_changeLine l G n ad _ hn t6824 (ln := l1) (c := c1) tk24 hk5 hN10 (by omega) (by omega) t8924 t9024 t9124 ls24 y2 y13 hy2 hy13) ⟨by decide, by decide⟩ rfl (Nat.le_of_ble_eq_true rfl) ⟨Nat.zero_le _, Nat.zero_le _⟩ (fun r25 E26 hq27 => ?_)
              obtain ⟨hcl28, hcO28⟩ := hq27
              have cW28 := tW24.of (hcO28 68 (by omega) (by omega) (by omega)) (hcO28 69 (by omega) (by omega) (by omega)) (hcO28 70 (by omega) (by omega) (by omega))
              have cS28 := tS24.go (fun j g1 g2 => hcO28 j (by omega) (by omega) (by omega))
              have cR28 := tR24.go (fun j g1 g2 => hcO28 j (by omega) (by omega) (by omega))
              have c9228 := (hcO28 92 (by omega) (by omega) (by omega)).trans t9224
              have c9328 := (hcO28 93 (by omega) (by omega) (by omega)).trans t9324
              have c9728 := (hcO28 97 (by omega) (by omega) (by omega)).trans t9724
              have c8828 := (hcO28 88 (by omega) (by omega) (by omega)).trans t8824
              have c6828 := (hcO28 68 (by omega) (by omega) (by omega)).trans t6824
              have cO28 : ∀ j, j ≠ 68 → j ≠ 70 → (j < 79 ∨ 84 < j) → (j < 89 ∨ 93 < j) → E26 j = E j := fun j g1 g2 g3 g4 => (hcO28 j (by omega) (by omega) (by omega)).trans (tO24 j g1 g2 g3 g4)
              rcases hcl28 with ⟨rfl, hlt28, p8928, p9028, p9128⟩ | ⟨rfl, hlt28, p8928, p9028, p9128⟩
              · have lsc28 : okLs k N (edO fo24 l1) (edX fo24 fx24 l1 c1) (edY fo24 fy24 l1 c1) := ed_ok hk5 ls24 (by omega) hlt28
                have agc28 : ∀ j, j < N → (edO fo24 l1) j = (edO (fP gop pp) l1) j ∧ (edX fo24 fx24 l1 c1) j = (edX (fP gop pp) (fP gx pp) l1 c1) j ∧ (edY fo24 fy24 l1 c1) j = (edY (fP gop pp) (fP gy pp) l1 c1) j := ed_cg (fun q hq => ag24 q hq) (by omega)
                have hlp28 : c1 < anN k (fP gop pp l1).toInt (fP gx pp l1).toInt := by have z9 := ag24 l1 (by omega); rw [show fP gop pp l1 = fo24 l1 from z9.1.symm, show fP gx pp l1 = fx24 l1 from z9.2.1.symm]; exact hlt28
                have cM28 : MSs G ad E E26 im ic md TT := MSs.next ti24 tb24 cO28 p8928 p9028 p9128 ⟨kd19, vl19, va_up im19 32 (fl pp), fun _ _ _ => rfl, cW28, cS28, c9228, c9328, fun _ _ _ _ _ _ => rfl⟩
                refine v_istore (lv' := [(0, .ref (ad 68)), (1, .int p), (2, .int x), (3, .int v), (4, .int y2), (5, .int 1), (6, .int y13)]) C [1, 2, 3, 4, 5, 0, 6] dX9_mendsOne_38 (by decide) rfl ?_
                refine v_iload C 5 dX9_mendsOne_40 rfl ?_
                refine b_if_eq C 56 dX9_mendsOne_42 (by decide) (show (1 : Int32).toInt = 1 by decide) (fun c29 => absurd c29 (by decide)) (fun c29 => ?_)
                refine v_aload_n C 0 dX9_mendsOne_45 rfl rfl ?_
                refine v_iload_n C 2 dX9_mendsOne_46 rfl rfl ?_
                refine v_iload_n C 3 dX9_mendsOne_47 rfl rfl ?_
                refine v_cVi C dX9_mendsOne_48 lX9_295 mX9_isRight 68 (by omega) c6828 (by decide) rfl (y_isRight l G n ad _ hn cW28 cR28 cS28 tT24 hV c9228 c9328 p8928 p9028 p9128 hk5 hN10 tn24 lsc28 c9728 tL24 hL4 hrg x v hlw) ⟨by decide, by decide⟩ rfl (Nat.le_of_ble_eq_true rfl) ⟨Nat.zero_le _, Nat.zero_le _⟩ (fun r30 E31 hq32 => ?_)
                obtain ⟨hri33, hFr33⟩ := hq32
                have hMr33 := MSs.next ti24 tb24 cO28 p8928 p9028 p9128 hFr33
                have hrt33 := (RT_list (ic := ic) (md := md) (law := x.toInt) (v := v.toInt) (N := N) (fo := (edO fo24 l1)) (fx := (edX fo24 fx24 l1 c1)) (fy := (edY fo24 fy24 l1 c1)) hen).symm.trans (RT_cg agc28)
                rcases hri33 with ⟨rfl, hrz33⟩ | ⟨rfl, hrz33⟩
                · have hri33 := hrt33.mp hrz33
                  obtain ⟨o34, x34, y34, kd34, vl34, im34, a34, b3234, W34, S34, r8934, r9034, r9134, r9234, r9334, O34⟩ := id hMr33
                  have e6834 := W34.2.2.1
                  have f8834 := (O34 88 (by decide) (by decide) (by omega) (by omega)).trans h88
                  refine b_if_eq C 56 dX9_mendsOne_51 (by decide) (show (1 : Int32).toInt = 1 by decide) (fun c35 => absurd c35 (by decide)) (fun c35 => ?_)
                  refine v_iconst (v := 1) C dX9_mendsOne_54 (by decide) ?_
                  exact v_ret C dX9_mendsOne_55 rfl rfl ⟨Or.inl ⟨rfl, l1, c1, by omega, hlp28, hri33⟩, hMr33⟩
                · have hri33 := fun z => hrz33 (hrt33.mpr z)
                  obtain ⟨o36, x36, y36, kd36, vl36, im36, a36, b3236, W36, S36, r8936, r9036, r9136, r9236, r9336, O36⟩ := id hMr33
                  have e6836 := W36.2.2.1
                  have f8836 := (O36 88 (by decide) (by decide) (by omega) (by omega)).trans h88
                  refine b_if_eq C 56 dX9_mendsOne_51 (by decide) (show (0 : Int32).toInt = 0 by decide) (fun c37 => ?_) (fun c37 => absurd c37 (by decide))
                  obtain ⟨x38, ex38⟩ : ∃ y : Int32, y = y13 + 1 := ⟨_, rfl⟩
                  have hx38 : x38.toInt = ((c1 : Int) + 1) := by rw [ex38]; exact ti_add hy13 (show (1 : Int32).toInt = 1 by decide) (by omega) (by omega)
                  refine v_iinc (v := x38) (lv' := [(0, .ref (ad 68)), (1, .int p), (2, .int x), (3, .int v), (4, .int y2), (5, .int 1), (6, .int x38)]) C 6 [1, 2, 3, 4, 5, 6, 0] dX9_mendsOne_56 rfl (ex38.symm) (by decide) rfl ?_
                  refine v_goto C 20 dX9_mendsOne_59 (by decide) ?_
                  exact ih17 1 (c1 + 1) x38 E31 (show Int32.toInt x38 = ((c1 + 1 : Nat) : Int) by have := hx38; omega) (hMr33) (by omega) (fun h => absurd h (by decide)) (fun _ => by have := hlp28; omega) (fun c g1 g2 => by by_cases q : c < c1; (exact hallI c q g2); (have e9 : c = c1 := (by omega); subst e9; exact hri33)) (by omega)
              · have hlp28 : ¬ c1 < anN k (fP gop pp l1).toInt (fP gx pp l1).toInt := by have z9 := ag24 l1 (by omega); rw [show fP gop pp l1 = fo24 l1 from z9.1.symm, show fP gx pp l1 = fx24 l1 from z9.2.1.symm]; exact hlt28
                have cM28 : MSs G ad E E26 im ic md TT := MSs.next ti24 tb24 cO28 p8928 p9028 p9128 ⟨kd19, vl19, va_up im19 32 (fl pp), fun _ _ _ => rfl, cW28, cS28, c9228, c9328, fun _ _ _ _ _ _ => rfl⟩
                refine v_istore (lv' := [(0, .ref (ad 68)), (1, .int p), (2, .int x), (3, .int v), (4, .int y2), (5, .int 0), (6, .int y13)]) C [1, 2, 3, 4, 5, 0, 6] dX9_mendsOne_38 (by decide) rfl ?_
                refine v_iload C 5 dX9_mendsOne_40 rfl ?_
                refine b_if_eq C 56 dX9_mendsOne_42 (by decide) (show (0 : Int32).toInt = 0 by decide) (fun c39 => ?_) (fun c39 => absurd c39 (by decide))
                obtain ⟨x40, ex40⟩ : ∃ y : Int32, y = y13 + 1 := ⟨_, rfl⟩
                have hx40 : x40.toInt = ((c1 : Int) + 1) := by rw [ex40]; exact ti_add hy13 (show (1 : Int32).toInt = 1 by decide) (by omega) (by omega)
                refine v_iinc (v := x40) (lv' := [(0, .ref (ad 68)), (1, .int p), (2, .int x), (3, .int v), (4, .int y2), (5, .int 0), (6, .int x40)]) C 6 [1, 2, 3, 4, 5, 6, 0] dX9_mendsOne_56 rfl (ex40.symm) (by decide) rfl ?_
                refine v_goto C 20 dX9_mendsOne_59 (by decide) ?_
                exact ih17 0 (c1 + 1) x40 E26 (show Int32.toInt x40 = ((c1 + 1 : Nat) : Int) by have := hx40; omega) (cM28) (by omega) (fun _ => by have := hlp28; omega) (fun h => absurd (show (0 : Int32).toInt = 0 by decide) h) (fun c g1 g2 => by by_cases q : c < c1; (exact hallI c q g2); (have e9 : c = c1 := (by omega); subst e9; exact absurd g2 hlp28)) (by omega)
        exact LP11 100000 1 0 0 E3 (show Int32.toInt 0 = ((0 : Nat) : Int) by have := (show (0 : Int32).toInt = 0 by decide); omega) (hI4) (by omega) (fun h => absurd h (by decide)) (fun _ => Nat.zero_le _) (fun c h => absurd h (by omega)) (by omega)
  exact LP1 100000 0 0 E (show Int32.toInt 0 = ((0 : Nat) : Int) by have := (show (0 : Int32).toInt = 0 by decide); omega) (⟨o0, x0, y0, kd, vl, im, fun _ _ _ _ => rfl, h32, hW, hS, h89, h90, h91, h92, h93, fun _ _ _ _ _ => rfl⟩) (by omega) (fun l c h => absurd h (by omega)) (by omega)

set_option maxRecDepth 20000 in
theorem y_mendsTwo (l : Launch) (G : Gl) (n : Nat) (ad : Nat → Nat) (E : Nat → va_E) (hn : 98 ≤ n) {im ic md : Nat → Int32} (hW : MCal G ad E im ic md) {rf rto ron rat rbe rtd rm fv : Nat → Int32} (hR : ZMr G E rf rto ron rat rbe rtd rm fv) {TT : Nat → TST} (hS : ZMs G E 5 TT) (hTT : ∀ z, z < 5 → TT z = TTz ic md rf rto ron rat rbe rtd rm fv (im 18).toInt z) (hV : ∀ z, z < 5 → RZv ic rf rto ron rat rbe rtd rm fv z) {gop gx gy fl o0 x0 y0 : Nat → Int32} (h85 : E 85 = aI G 60 gop) (h86 : E 86 = aI G 60 gx) (h87 : E 87 = aI G 60 gy) (h88 : E 88 = aI G 6 fl) (h89 : E 89 = aI G 10 o0) (h90 : E 90 = aI G 10 x0) (h91 : E 91 = aI G 10 y0) {kd vl : Nat → Int32} (h92 : E 92 = aI G 8 kd) (h93 : E 93 = aI G 8 vl) {od : Nat → Int32} (h97 : E 97 = aI G 40000 od) {L : Nat} (hL : (im 41).toInt = (L : Int)) (hL4 : L ≤ 26002) (hrg : ∀ q, q < L → 0 ≤ (od q).toInt ∧ (od q).toInt < 60000000) {k : Nat} (hk : (im 16).toInt = (k : Int)) (hk5 : k ≤ 5) (hOP : OPg gop) (hLN : LOK k fl gop gx gy) {pp N : Nat} (hpp : pp < 6) (hN : (fl pp).toInt = (N : Int)) (hN10 : N ≤ 10) (h32 : 0 ≤ (im 32).toInt ∧ (im 32).toInt ≤ 10) {Y La Lb : Int} (hen : isEn (isOd k TT Y La Lb) L (fun q => (od q).toInt)) (p : Int32) (x : Int32) (v : Int32) (hp : p.toInt = (pp : Int)) (hlw : okLW (k : Int) x.toInt v.toInt) : CtI l G yX9_mendsTwo cX9_mendsTwo 11 .boolean 11 268 (n) ad E [.ref (ad 68), .int p, .int x, .int v] (fun r E' => ((r = 1 ∧ MD2 k (RTp k ic md TT Y La Lb x.toInt v.toInt N) N (fP gop pp) (fP gx pp) (fP gy pp)) ∨ (r = 0 ∧ ¬ MD2 k (RTp k ic md TT Y La Lb x.toInt v.toInt N) N (fP gop pp) (fP gx pp) (fP gy pp))) ∧ MSs G ad E E' im ic md TT) := by
  refine CtI.of (by decide) (Nat.le_of_ble_eq_true rfl) (fun X A C => ?_)
  refine v_sub (lv' := [(0, .ref (ad 68)), (1, .int p), (2, .int x), (3, .int v)]) [0, 1, 2, 3] rfl ?_
  have hP := hW.2.1
  have h68 := hW.2.2.1
  have hcy := cal_y hP
  have h8T : ∀ z, z < 5 → (TT z).1 ≤ 800 := fun z hz => by rw [hTT z hz]; exact (TTz_ok hP (hV z hz)).2
  have hokT : ∀ z, z < 5 → okT 69300000 (TT z) := fun z hz => by rw [hTT z hz]; exact (TTz_ok hP (hV z hz)).1
  have hlsP : okLs k N (fP gop pp) (fP gx pp) (fP gy pp) := fun j hj => hLN pp hpp j (by omega)
  refine v_iconst (v := 0) C dX9_mendsTwo_0 (by decide) ?_
  refine v_istore (lv' := [(0, .ref (ad 68)), (1, .int p), (2, .int x), (3, .int v), (4, .int 0)]) C [1, 2, 3, 4, 0] dX9_mendsTwo_1 (by decide) rfl ?_
  have LP1 : ∀ (t : Nat) (l1 : Nat) (y2 : Int32) (E3 : Nat → va_E), (y2.toInt = (l1 : Int)) → (MSs G ad E E3 im ic md TT) → (l1 ≤ N) → (∀ l c m d, l < l1 → l < m → m < N → c < anN k (fP gop pp l).toInt (fP gx pp l).toInt → d < anN k (fP gop pp m).toInt (fP gx pp m).toInt → ¬ RTp k ic md TT Y La Lb x.toInt v.toInt N (edO (edO (fP gop pp) l) m) (edX (edO (fP gop pp) l) (edX (fP gop pp) (fP gx pp) l c) m d) (edY (edO (fP gop pp) l) (edY (fP gop pp) (fP gy pp) l c) m d)) → (N : Int) - (l1 : Int) < (t : Int) → V X G A 11 (QI X G A (n) ad (fun r E' => ((r = 1 ∧ MD2 k (RTp k ic md TT Y La Lb x.toInt v.toInt N) N (fP gop pp) (fP gx pp) (fP gy pp)) ∨ (r = 0 ∧ ¬ MD2 k (RTp k ic md TT Y La Lb x.toInt v.toInt N) N (fP gop pp) (fP gx pp) (fP gy pp))) ∧ MSs G ad E E' im ic md TT)) (n) ad 0 0 E3 3 [(0, .ref (ad 68)), (1, .int p), (2, .int x), (3, .int v), (4, .int y2)] [] := by
    intro t6
    induction t6 with
    | zero => intro l1 y2 E3 hy2 hI4 hq5 hallO hm8; exfalso; omega
    | succ t6 ih7 =>
      intro l1 y2 E3 hy2 hI4 hq5 hallO hm8
      obtain ⟨o9, x9, y9, kd9, vl9, im9, a9, b329, W9, S9, r899, r909, r919, r929, r939, O9⟩ := id hI4
      have e689 := W9.2.2.1
      have f889 := (O9 88 (by decide) (by decide) (by omega) (by omega)).trans h88
      refine v_iload C 4 dX9_mendsTwo_3 rfl ?_
      refine v_aload_n C 0 dX9_mendsTwo_5 rfl rfl ?_
      refine v_getr C 68 dX9_mendsTwo_6 fX9_85 (by omega) e689 rfl rfl ?_
      refine v_iload_n C 1 dX9_mendsTwo_9 rfl rfl ?_
      refine v_ald (v := fl pp) C 88 dX9_mendsTwo_10 (by omega) f889 (ti_in hp (by omega) (by omega)) (by rw [ti_cl hp, show Int.toNat (pp : Int) = pp by omega]) ?_
      refine b_icmp_ge C 138 dX9_mendsTwo_11 (by decide) hy2 hN (fun c10 => ?_) (fun c10 => ?_)
      · refine v_iconst (v := 0) C dX9_mendsTwo_138 (by decide) ?_
        exact v_ret C dX9_mendsTwo_139 rfl rfl ⟨Or.inr ⟨rfl, fun q => by obtain ⟨l9, c9, m9, d9, g1, g2, g3, g4, g5⟩ := q; exact hallO l9 c9 m9 d9 (by omega) g1 g2 g3 g4 g5⟩, hI4⟩
      · refine v_iconst (v := 1) C dX9_mendsTwo_14 (by decide) ?_
        refine v_istore (lv' := [(0, .ref (ad 68)), (1, .int p), (2, .int x), (3, .int v), (4, .int y2), (5, .int 1)]) C [1, 2, 3, 4, 5, 0] dX9_mendsTwo_15 (by decide) rfl ?_
        have h5l1 := an_5 (o := (fP gop pp l1).toInt) (x := (fP gx pp l1).toInt) hk5
        refine v_iconst (v := 0) C dX9_mendsTwo_17 (by decide) ?_
        refine v_istore (lv' := [(0, .ref (ad 68)), (1, .int p), (2, .int x), (3, .int v), (4, .int y2), (5, .int 1), (6, .int 0)]) C [1, 2, 3, 4, 5, 6, 0] dX9_mendsTwo_18 (by decide) rfl ?_
        have LP11 : ∀ (t : Nat) (mo : Int32) (c1 : Nat) (y13 : Int32) (E14 : Nat → va_E), (y13.toInt = (c1 : Int)) → (MSs G ad E E14 im ic md TT) → (c1 ≤ anN k (fP gop pp l1).toInt (fP gx pp l1).toInt + 1) → (mo.toInt = 0 → anN k (fP gop pp l1).toInt (fP gx pp l1).toInt ≤ c1) → (mo.toInt ≠ 0 → c1 ≤ anN k (fP gop pp l1).toInt (fP gx pp l1).toInt) → (∀ c m d, c < c1 → l1 < m → m < N → c < anN k (fP gop pp l1).toInt (fP gx pp l1).toInt → d < anN k (fP gop pp m).toInt (fP gx pp m).toInt → ¬ RTp k ic md TT Y La Lb x.toInt v.toInt N (edO (edO (fP gop pp) l1) m) (edX (edO (fP gop pp) l1) (edX (fP gop pp) (fP gx pp) l1 c) m d) (edY (edO (fP gop pp) l1) (edY (fP gop pp) (fP gy pp) l1 c) m d)) → ((anN k (fP gop pp l1).toInt (fP gx pp l1).toInt : Nat) : Int) + 2 - (c1 : Int) < (t : Int) → V X G A 11 (QI X G A (n) ad (fun r E' => ((r = 1 ∧ MD2 k (RTp k ic md TT Y La Lb x.toInt v.toInt N) N (fP gop pp) (fP gx pp) (fP gy pp)) ∨ (r = 0 ∧ ¬ MD2 k (RTp k ic md TT Y La Lb x.toInt v.toInt N) N (fP gop pp) (fP gx pp) (fP gy pp))) ∧ MSs G ad E E' im ic md TT)) (n) ad 0 0 E14 20 [(0, .ref (ad 68)), (1, .int p), (2, .int x), (3, .int v), (4, .int y2), (5, .int mo), (6, .int y13)] [] := by
          intro t16
          induction t16 with
          | zero => intro mo c1 y13 E14 hy13 hI15 hc5 hmz hmn hallC hm18; exfalso; omega
          | succ t16 ih17 =>
            intro mo c1 y13 E14 hy13 hI15 hc5 hmz hmn hallC hm18
            obtain ⟨o19, x19, y19, kd19, vl19, im19, a19, b3219, W19, S19, r8919, r9019, r9119, r9219, r9319, O19⟩ := id hI15
            have e6819 := W19.2.2.1
            have f8819 := (O19 88 (by decide) (by decide) (by omega) (by omega)).trans h88
            have h5l1 := an_5 (o := (fP gop pp l1).toInt) (x := (fP gx pp l1).toInt) hk5
            refine v_iload C 5 dX9_mendsTwo_20 rfl ?_
            refine b_if_eq C 132 dX9_mendsTwo_22 (by decide) (rfl : Int32.toInt mo = _) (fun c20 => ?_) (fun c20 => ?_)
            · obtain ⟨x21, ex21⟩ : ∃ y : Int32, y = y2 + 1 := ⟨_, rfl⟩
              have hx21 : x21.toInt = ((l1 : Int) + 1) := by rw [ex21]; exact ti_add hy2 (show (1 : Int32).toInt = 1 by decide) (by omega) (by omega)
              refine v_iinc (v := x21) (lv' := [(0, .ref (ad 68)), (1, .int p), (2, .int x), (3, .int v), (4, .int x21), (5, .int mo), (6, .int y13)]) C 4 [1, 2, 3, 4, 0, 5, 6] dX9_mendsTwo_132 rfl (ex21.symm) (by decide) rfl ?_
              refine v_goto C 3 dX9_mendsTwo_135 (by decide) ?_
              refine v_sub (lv' := [(0, .ref (ad 68)), (1, .int p), (2, .int x), (3, .int v), (4, .int x21)]) [0, 1, 2, 3, 4] rfl ?_
              exact ih7 (l1 + 1) x21 E14 (show Int32.toInt x21 = ((l1 + 1 : Nat) : Int) by have := hx21; omega) (hI15) (by omega) (fun l c m d g1 g2 g3 g4 g5 => by by_cases q : l < l1; (exact hallO l c m d q g2 g3 g4 g5); (have e9 : l = l1 := (by omega); subst e9; exact hallC c m d (by have := hmz (by omega); omega) g2 g3 g4 g5)) (by omega)
            · have hc9 := hmn (by omega)
              refine v_aload_n C 0 dX9_mendsTwo_25 rfl rfl ?_
              refine v_iload_n C 1 dX9_mendsTwo_26 rfl rfl ?_
              refine v_cVv C dX9_mendsTwo_27 lX9_219 mX9_take 68 (by omega) e6819 (by decide) rfl (y_take l G n ad _ hn e6819 ((O19 85 (by decide) (by decide) (by omega) (by omega)).trans h85) ((O19 86 (by decide) (by decide) (by omega) (by omega)).trans h86) ((O19 87 (by decide) (by decide) (by omega) (by omega)).trans h87) f8819 r8919 r9019 r9119 p hp hpp hN hN10) ⟨by decide, by decide⟩ rfl (Nat.le_of_ble_eq_true rfl) ⟨Nat.zero_le _, Nat.zero_le _⟩ (fun E22 hq23 => ?_)
              obtain ⟨fo24, fx24, fy24, t6824, t8924, t9024, t9124, ag24, T24⟩ := hq23
              have tW24 := W19.same (im1 := va_up im19 32 (fl pp)) (fun q hq => if_neg (by omega)) t6824 (T24 69 (by decide) (by decide) (by decide) (by decide)) (T24 70 (by decide) (by decide) (by decide) (by decide))
              have tS24 := S19.go (fun j g1 g2 => T24 j (by omega) (by omega) (by omega) (by omega))
              have tO24 : ∀ j, j ≠ 68 → j ≠ 70 → (j < 79 ∨ 84 < j) → (j < 89 ∨ 93 < j) → E22 j = E j := fun j g1 g2 g3 g4 => (T24 j g1 (by omega) (by omega) (by omega)).trans (O19 j g1 g2 g3 g4)
              have ti24 : ∀ q, q ≠ 7 → q ≠ 32 → q ≠ 35 → va_up im19 32 (fl pp) q = im q := fun q g1 g2 g3 => (if_neg g2).trans (a19 q g1 g2 g3)
              have tR24 := hR.go (fun j g1 g2 => tO24 j (by omega) (by omega) (by omega) (by omega))
              have tT24 : ∀ z, z < 5 → TT z = TTz ic md rf rto ron rat rbe rtd rm fv (va_up im19 32 (fl pp) 18).toInt z := fun z hz => by rw [ti24 18 (by decide) (by decide) (by decide)]; exact hTT z hz
              have tk24 : (va_up im19 32 (fl pp) 16).toInt = (k : Int) := by rw [ti24 16 (by decide) (by decide) (by decide)]; exact hk
              have tL24 : (va_up im19 32 (fl pp) 41).toInt = (L : Int) := by rw [ti24 41 (by decide) (by decide) (by decide)]; exact hL
              have tn24 : (va_up im19 32 (fl pp) 32).toInt = (N : Int) := hN
              have tb24 : 0 ≤ (va_up im19 32 (fl pp) 32).toInt ∧ (va_up im19 32 (fl pp) 32).toInt ≤ 10 := by omega
              have t9224 := (T24 92 (by decide) (by decide) (by decide) (by decide)).trans r9219
              have t9324 := (T24 93 (by decide) (by decide) (by decide) (by decide)).trans r9319
              have t9724 := (tO24 97 (by decide) (by decide) (by omega) (by omega)).trans h97
              have t8824 := (tO24 88 (by decide) (by decide) (by omega) (by omega)).trans h88
              have ls24 : okLs k N fo24 fx24 fy24 := okLs_cg (fun q hq => ag24 q hq) hlsP
              have tM24 : MSs G ad E E22 im ic md TT := MSs.next ti24 tb24 tO24 t8924 t9024 t9124 ⟨kd19, vl19, va_up im19 32 (fl pp), fun _ _ _ => rfl, tW24, tS24, t9224, t9324, fun _ _ _ _ _ _ => rfl⟩
              refine v_aload_n C 0 dX9_mendsTwo_30 rfl rfl ?_
              refine v_iload C 4 dX9_mendsTwo_31 rfl ?_
              refine v_iload C 6 dX9_mendsTwo_33 rfl ?_
              refine v_cVi C dX9_mendsTwo_35 lX9_292 mX9_changeLine 68 (by omega) t6824 (by decide) rfl (y_changeLine l G n ad _ hn t6824 (ln := l1) (c := c1) tk24 hk5 hN10 (by omega) (by omega) t8924 t9024 t9124 ls24 y2 y13 hy2 hy13) ⟨by decide, by decide⟩ rfl (Nat.le_of_ble_eq_true rfl) ⟨Nat.zero_le _, Nat.zero_le _⟩ (fun r25 E26 hq27 => ?_)
              obtain ⟨hcl28, hcO28⟩ := hq27
              have cW28 := tW24.of (hcO28 68 (by omega) (by omega) (by omega)) (hcO28 69 (by omega) (by omega) (by omega)) (hcO28 70 (by omega) (by omega) (by omega))
              have cS28 := tS24.go (fun j g1 g2 => hcO28 j (by omega) (by omega) (by omega))
              have cR28 := tR24.go (fun j g1 g2 => hcO28 j (by omega) (by omega) (by omega))
              have c9228 := (hcO28 92 (by omega) (by omega) (by omega)).trans t9224
              have c9328 := (hcO28 93 (by omega) (by omega) (by omega)).trans t9324
              have c9728 := (hcO28 97 (by omega) (by omega) (by omega)).trans t9724
              have c8828 := (hcO28 88 (by omega) (by omega) (by omega)).trans t8824
              have c6828 := (hcO28 68 (by omega) (by omega) (by omega)).trans t6824
              have cO28 : ∀ j, j ≠ 68 → j ≠ 70 → (j < 79 ∨ 84 < j) → (j < 89 ∨ 93 < j) → E26 j = E j := fun j g1 g2 g3 g4 => (hcO28 j (by omega) (by omega) (by omega)).trans (tO24 j g1 g2 g3 g4)
              rcases hcl28 with ⟨rfl, hlt28, p8928, p9028, p9128⟩ | ⟨rfl, hlt28, p8928, p9028, p9128⟩
              · have lsc28 : okLs k N (edO fo24 l1) (edX fo24 fx24 l1 c1) (edY fo24 fy24 l1 c1) := ed_ok hk5 ls24 (by omega) hlt28
                have agc28 : ∀ j, j < N → (edO fo24 l1) j = (edO (fP gop pp) l1) j ∧ (edX fo24 fx24 l1 c1) j = (edX (fP gop pp) (fP gx pp) l1 c1) j ∧ (edY fo24 fy24 l1 c1) j = (edY (fP gop pp) (fP gy pp) l1 c1) j := ed_cg (fun q hq => ag24 q hq) (by omega)
                have hlp28 : c1 < anN k (fP gop pp l1).toInt (fP gx pp l1).toInt := by have z9 := ag24 l1 (by omega); rw [show fP gop pp l1 = fo24 l1 from z9.1.symm, show fP gx pp l1 = fx24 l1 from z9.2.1.symm]; exact hlt28
                have cM28 : MSs G ad E E26 im ic md TT := MSs.next ti24 tb24 cO28 p8928 p9028 p9128 ⟨kd19, vl19, va_up im19 32 (fl pp), fun _ _ _ => rfl, cW28, cS28, c9228, c9328, fun _ _ _ _ _ _ => rfl⟩
                refine v_istore (lv' := [(0, .ref (ad 68)), (1, .int p), (2, .int x), (3, .int v), (4, .int y2), (5, .int 1), (6, .int y13)]) C [1, 2, 3, 4, 5, 0, 6] dX9_mendsTwo_38 (by decide) rfl ?_
                have h5m := an_5 (o := (fP gop pp l1).toInt) (x := (fP gx pp l1).toInt) hk5
                refine v_iload C 4 dX9_mendsTwo_40 rfl ?_
                refine v_iconst (v := 1) C dX9_mendsTwo_42 (by decide) ?_
                refine v_iadd C dX9_mendsTwo_43 ?_
                refine v_top (fun x29 ex29 => ?_)
                have hx29 : x29.toInt = ((l1 : Int) + 1) := by rw [ex29]; exact ti_add hy2 (show (1 : Int32).toInt = 1 by decide) (by omega) (by omega)
                refine v_istore (lv' := [(0, .ref (ad 68)), (1, .int p), (2, .int x), (3, .int v), (4, .int y2), (5, .int 1), (6, .int y13), (7, .int x29)]) C [1, 2, 3, 4, 5, 6, 7, 0] dX9_mendsTwo_44 (by decide) rfl ?_
                have LP30 : ∀ (t : Nat) (m1 : Nat) (y31 : Int32) (E32 : Nat → va_E), (y31.toInt = (m1 : Int)) → (MSs G ad E E32 im ic md TT) → (l1 < m1) → (m1 ≤ N) → (∀ m d, l1 < m → m < m1 → d < anN k (fP gop pp m).toInt (fP gx pp m).toInt → ¬ RTp k ic md TT Y La Lb x.toInt v.toInt N (edO (edO (fP gop pp) l1) m) (edX (edO (fP gop pp) l1) (edX (fP gop pp) (fP gx pp) l1 c1) m d) (edY (edO (fP gop pp) l1) (edY (fP gop pp) (fP gy pp) l1 c1) m d)) → (N : Int) - (m1 : Int) < (t : Int) → V X G A 11 (QI X G A (n) ad (fun r E' => ((r = 1 ∧ MD2 k (RTp k ic md TT Y La Lb x.toInt v.toInt N) N (fP gop pp) (fP gx pp) (fP gy pp)) ∨ (r = 0 ∧ ¬ MD2 k (RTp k ic md TT Y La Lb x.toInt v.toInt N) N (fP gop pp) (fP gx pp) (fP gy pp))) ∧ MSs G ad E E' im ic md TT)) (n) ad 0 0 E32 46 [(0, .ref (ad 68)), (1, .int p), (2, .int x), (3, .int v), (4, .int y2), (5, .int 1), (6, .int y13), (7, .int y31)] [] := by
                  intro t36
                  induction t36 with
                  | zero => intro m1 y31 E32 hy31 hI33 hq34 hq35 hallM hm38; exfalso; omega
                  | succ t36 ih37 =>
                    intro m1 y31 E32 hy31 hI33 hq34 hq35 hallM hm38
                    obtain ⟨o39, x39, y39, kd39, vl39, im39, a39, b3239, W39, S39, r8939, r9039, r9139, r9239, r9339, O39⟩ := id hI33
                    have e6839 := W39.2.2.1
                    have f8839 := (O39 88 (by decide) (by decide) (by omega) (by omega)).trans h88
                    refine v_iload C 7 dX9_mendsTwo_46 rfl ?_
                    refine v_aload_n C 0 dX9_mendsTwo_48 rfl rfl ?_
                    refine v_getr C 68 dX9_mendsTwo_49 fX9_85 (by omega) e6839 rfl rfl ?_
                    refine v_iload_n C 1 dX9_mendsTwo_52 rfl rfl ?_
                    refine v_ald (v := fl pp) C 88 dX9_mendsTwo_53 (by omega) f8839 (ti_in hp (by omega) (by omega)) (by rw [ti_cl hp, show Int.toNat (pp : Int) = pp by omega]) ?_
                    refine b_icmp_ge C 126 dX9_mendsTwo_54 (by decide) hy31 hN (fun c40 => ?_) (fun c40 => ?_)
                    · obtain ⟨x41, ex41⟩ : ∃ y : Int32, y = y13 + 1 := ⟨_, rfl⟩
                      have hx41 : x41.toInt = ((c1 : Int) + 1) := by rw [ex41]; exact ti_add hy13 (show (1 : Int32).toInt = 1 by decide) (by omega) (by omega)
                      refine v_iinc (v := x41) (lv' := [(0, .ref (ad 68)), (1, .int p), (2, .int x), (3, .int v), (4, .int y2), (5, .int 1), (6, .int x41), (7, .int y31)]) C 6 [1, 2, 3, 4, 5, 6, 0, 7] dX9_mendsTwo_126 rfl (ex41.symm) (by decide) rfl ?_
                      refine v_goto C 20 dX9_mendsTwo_129 (by decide) ?_
                      refine v_sub (lv' := [(0, .ref (ad 68)), (1, .int p), (2, .int x), (3, .int v), (4, .int y2), (5, .int 1), (6, .int x41)]) [0, 1, 2, 3, 4, 5, 6] rfl ?_
                      exact ih17 1 (c1 + 1) x41 E32 (show Int32.toInt x41 = ((c1 + 1 : Nat) : Int) by have := hx41; omega) (hI33) (by omega) (fun h => absurd h (by decide)) (fun _ => by have := hlp28; omega) (fun c m d g1 g2 g3 g4 g5 => by by_cases q : c < c1; (exact hallC c m d q g2 g3 g4 g5); (have e9 : c = c1 := (by omega); subst e9; exact hallM m d g2 (by omega) g5)) (by omega)
                    · refine v_iload C 5 dX9_mendsTwo_57 rfl ?_
                      refine b_if_eq C 126 dX9_mendsTwo_59 (by decide) (show (1 : Int32).toInt = 1 by decide) (fun c42 => absurd c42 (by decide)) (fun c42 => ?_)
                      refine v_iconst (v := 1) C dX9_mendsTwo_62 (by decide) ?_
                      refine v_istore (lv' := [(0, .ref (ad 68)), (1, .int p), (2, .int x), (3, .int v), (4, .int y2), (5, .int 1), (6, .int y13), (7, .int y31), (8, .int 1)]) C [1, 2, 3, 4, 5, 6, 7, 8, 0] dX9_mendsTwo_63 (by decide) rfl ?_
                      have h5m1 := an_5 (o := (fP gop pp m1).toInt) (x := (fP gx pp m1).toInt) hk5
                      refine v_iconst (v := 0) C dX9_mendsTwo_65 (by decide) ?_
                      refine v_istore (lv' := [(0, .ref (ad 68)), (1, .int p), (2, .int x), (3, .int v), (4, .int y2), (5, .int 1), (6, .int y13), (7, .int y31), (8, .int 1), (9, .int 0)]) C [1, 2, 3, 4, 5, 6, 7, 8, 9, 0] dX9_mendsTwo_66 (by decide) rfl ?_
                      have LP43 : ∀ (t : Nat) (al : Int32) (d1 : Nat) (y45 : Int32) (E46 : Nat → va_E), (y45.toInt = (d1 : Int)) → (MSs G ad E E46 im ic md TT) → (d1 ≤ anN k (fP gop pp m1).toInt (fP gx pp m1).toInt + 1) → (al.toInt = 0 → anN k (fP gop pp m1).toInt (fP gx pp m1).toInt ≤ d1) → (al.toInt ≠ 0 → d1 ≤ anN k (fP gop pp m1).toInt (fP gx pp m1).toInt) → (∀ d, d < d1 → d < anN k (fP gop pp m1).toInt (fP gx pp m1).toInt → ¬ RTp k ic md TT Y La Lb x.toInt v.toInt N (edO (edO (fP gop pp) l1) m1) (edX (edO (fP gop pp) l1) (edX (fP gop pp) (fP gx pp) l1 c1) m1 d) (edY (edO (fP gop pp) l1) (edY (fP gop pp) (fP gy pp) l1 c1) m1 d)) → ((anN k (fP gop pp m1).toInt (fP gx pp m1).toInt : Nat) : Int) + 2 - (d1 : Int) < (t : Int) → V X G A 11 (QI X G A (n) ad (fun r E' => ((r = 1 ∧ MD2 k (RTp k ic md TT Y La Lb x.toInt v.toInt N) N (fP gop pp) (fP gx pp) (fP gy pp)) ∨ (r = 0 ∧ ¬ MD2 k (RTp k ic md TT Y La Lb x.toInt v.toInt N) N (fP gop pp) (fP gx pp) (fP gy pp))) ∧ MSs G ad E E' im ic md TT)) (n) ad 0 0 E46 68 [(0, .ref (ad 68)), (1, .int p), (2, .int x), (3, .int v), (4, .int y2), (5, .int 1), (6, .int y13), (7, .int y31), (8, .int al), (9, .int y45)] [] := by
                        intro t48
                        induction t48 with
                        | zero => intro al d1 y45 E46 hy45 hI47 hd5 haz han hallD hm50; exfalso; omega
                        | succ t48 ih49 =>
                          intro al d1 y45 E46 hy45 hI47 hd5 haz han hallD hm50
                          obtain ⟨o51, x51, y51, kd51, vl51, im51, a51, b3251, W51, S51, r8951, r9051, r9151, r9251, r9351, O51⟩ := id hI47
                          have e6851 := W51.2.2.1
                          have f8851 := (O51 88 (by decide) (by decide) (by omega) (by omega)).trans h88
                          have h5m1 := an_5 (o := (fP gop pp m1).toInt) (x := (fP gx pp m1).toInt) hk5
                          refine v_iload C 8 dX9_mendsTwo_68 rfl ?_
                          refine b_if_eq C 120 dX9_mendsTwo_70 (by decide) (rfl : Int32.toInt al = _) (fun c52 => ?_) (fun c52 => ?_)
                          · obtain ⟨x53, ex53⟩ : ∃ y : Int32, y = y31 + 1 := ⟨_, rfl⟩
                            have hx53 : x53.toInt = ((m1 : Int) + 1) := by rw [ex53]; exact ti_add hy31 (show (1 : Int32).toInt = 1 by decide) (by omega) (by omega)
                            refine v_iinc (v := x53) (lv' := [(0, .ref (ad 68)), (1, .int p), (2, .int x), (3, .int v), (4, .int y2), (5, .int 1), (6, .int y13), (7, .int x53), (8, .int al), (9, .int y45)]) C 7 [1, 2, 3, 4, 5, 6, 7, 0, 8, 9] dX9_mendsTwo_120 rfl (ex53.symm) (by decide) rfl ?_
                            refine v_goto C 46 dX9_mendsTwo_123 (by decide) ?_
                            refine v_sub (lv' := [(0, .ref (ad 68)), (1, .int p), (2, .int x), (3, .int v), (4, .int y2), (5, .int 1), (6, .int y13), (7, .int x53)]) [0, 1, 2, 3, 4, 5, 6, 7] rfl ?_
                            exact ih37 (m1 + 1) x53 E46 (show Int32.toInt x53 = ((m1 + 1 : Nat) : Int) by have := hx53; omega) (hI47) (by omega) (by omega) (fun m d g1 g2 g3 => by by_cases q : m < m1; (exact hallM m d g1 q g3); (have e9 : m = m1 := (by omega); subst e9; exact hallD d (by have := haz (by omega); omega) g3)) (by omega)
                          · have hd9 := han (by omega)
                            refine v_aload_n C 0 dX9_mendsTwo_73 rfl rfl ?_
                            refine v_iload_n C 1 dX9_mendsTwo_74 rfl rfl ?_
                            refine v_cVv C dX9_mendsTwo_75 lX9_219 mX9_take 68 (by omega) e6851 (by decide) rfl (y_take l G n ad _ hn e6851 ((O51 85 (by decide) (by decide) (by omega) (by omega)).trans h85) ((O51 86 (by decide) (by decide) (by omega) (by omega)).trans h86) ((O51 87 (by decide) (by decide) (by omega) (by omega)).trans h87) f8851 r8951 r9051 r9151 p hp hpp hN hN10) ⟨by decide, by decide⟩ rfl (Nat.le_of_ble_eq_true rfl) ⟨Nat.zero_le _, Nat.zero_le _⟩ (fun E54 hq55 => ?_)
                            obtain ⟨fo56, fx56, fy56, t6856, t8956, t9056, t9156, ag56, T56⟩ := hq55
                            have tW56 := W51.same (im1 := va_up im51 32 (fl pp)) (fun q hq => if_neg (by omega)) t6856 (T56 69 (by decide) (by decide) (by decide) (by decide)) (T56 70 (by decide) (by decide) (by decide) (by decide))
                            have tS56 := S51.go (fun j g1 g2 => T56 j (by omega) (by omega) (by omega) (by omega))
                            have tO56 : ∀ j, j ≠ 68 → j ≠ 70 → (j < 79 ∨ 84 < j) → (j < 89 ∨ 93 < j) → E54 j = E j := fun j g1 g2 g3 g4 => (T56 j g1 (by omega) (by omega) (by omega)).trans (O51 j g1 g2 g3 g4)
                            have ti56 : ∀ q, q ≠ 7 → q ≠ 32 → q ≠ 35 → va_up im51 32 (fl pp) q = im q := fun q g1 g2 g3 => (if_neg g2).trans (a51 q g1 g2 g3)
                            have tR56 := hR.go (fun j g1 g2 => tO56 j (by omega) (by omega) (by omega) (by omega))
                            have tT56 : ∀ z, z < 5 → TT z = TTz ic md rf rto ron rat rbe rtd rm fv (va_up im51 32 (fl pp) 18).toInt z := fun z hz => by rw [ti56 18 (by decide) (by decide) (by decide)]; exact hTT z hz
                            have tk56 : (va_up im51 32 (fl pp) 16).toInt = (k : Int) := by rw [ti56 16 (by decide) (by decide) (by decide)]; exact hk
                            have tL56 : (va_up im51 32 (fl pp) 41).toInt = (L : Int) := by rw [ti56 41 (by decide) (by decide) (by decide)]; exact hL
                            have tn56 : (va_up im51 32 (fl pp) 32).toInt = (N : Int) := hN
                            have tb56 : 0 ≤ (va_up im51 32 (fl pp) 32).toInt ∧ (va_up im51 32 (fl pp) 32).toInt ≤ 10 := by omega
                            have t9256 := (T56 92 (by decide) (by decide) (by decide) (by decide)).trans r9251
                            have t9356 := (T56 93 (by decide) (by decide) (by decide) (by decide)).trans r9351
                            have t9756 := (tO56 97 (by decide) (by decide) (by omega) (by omega)).trans h97
                            have t8856 := (tO56 88 (by decide) (by decide) (by omega) (by omega)).trans h88
                            have ls56 : okLs k N fo56 fx56 fy56 := okLs_cg (fun q hq => ag56 q hq) hlsP
                            have tM56 : MSs G ad E E54 im ic md TT := MSs.next ti56 tb56 tO56 t8956 t9056 t9156 ⟨kd51, vl51, va_up im51 32 (fl pp), fun _ _ _ => rfl, tW56, tS56, t9256, t9356, fun _ _ _ _ _ _ => rfl⟩
                            refine v_aload_n C 0 dX9_mendsTwo_78 rfl rfl ?_
                            refine v_iload C 4 dX9_mendsTwo_79 rfl ?_
                            refine v_iload C 6 dX9_mendsTwo_81 rfl ?_
                            refine v_cVi C dX9_mendsTwo_83 lX9_292 mX9_changeLine 68 (by omega) t6856 (by decide) rfl (y_changeLine l G n ad _ hn t6856 (ln := l1) (c := c1) tk56 hk5 hN10 (by omega) (by omega) t8956 t9056 t9156 ls56 y2 y13 hy2 hy13) ⟨by decide, by decide⟩ rfl (Nat.le_of_ble_eq_true rfl) ⟨Nat.zero_le _, Nat.zero_le _⟩ (fun r57 E58 hq59 => ?_)
                            obtain ⟨hcl60, hcO60⟩ := hq59
                            have cW60 := tW56.of (hcO60 68 (by omega) (by omega) (by omega)) (hcO60 69 (by omega) (by omega) (by omega)) (hcO60 70 (by omega) (by omega) (by omega))
                            have cS60 := tS56.go (fun j g1 g2 => hcO60 j (by omega) (by omega) (by omega))
                            have cR60 := tR56.go (fun j g1 g2 => hcO60 j (by omega) (by omega) (by omega))
                            have c9260 := (hcO60 92 (by omega) (by omega) (by omega)).trans t9256
                            have c9360 := (hcO60 93 (by omega) (by omega) (by omega)).trans t9356
                            have c9760 := (hcO60 97 (by omega) (by omega) (by omega)).trans t9756
                            have c8860 := (hcO60 88 (by omega) (by omega) (by omega)).trans t8856
                            have c6860 := (hcO60 68 (by omega) (by omega) (by omega)).trans t6856
                            have cO60 : ∀ j, j ≠ 68 → j ≠ 70 → (j < 79 ∨ 84 < j) → (j < 89 ∨ 93 < j) → E58 j = E j := fun j g1 g2 g3 g4 => (hcO60 j (by omega) (by omega) (by omega)).trans (tO56 j g1 g2 g3 g4)
                            have hkn60 : c1 < anN k (fo56 l1).toInt (fx56 l1).toInt := by have z9 := ag56 l1 (by omega); rw [show fo56 l1 = fP gop pp l1 from z9.1, show fx56 l1 = fP gx pp l1 from z9.2.1]; exact hlp28
                            obtain ⟨rfl, hlt60, p8960, p9060, p9160⟩ := hcl60.resolve_right (fun z => z.2.1 hkn60)
                            have lsc60 : okLs k N (edO fo56 l1) (edX fo56 fx56 l1 c1) (edY fo56 fy56 l1 c1) := ed_ok hk5 ls56 (by omega) hlt60
                            have agc60 : ∀ j, j < N → (edO fo56 l1) j = (edO (fP gop pp) l1) j ∧ (edX fo56 fx56 l1 c1) j = (edX (fP gop pp) (fP gx pp) l1 c1) j ∧ (edY fo56 fy56 l1 c1) j = (edY (fP gop pp) (fP gy pp) l1 c1) j := ed_cg (fun q hq => ag56 q hq) (by omega)
                            have hlp60 : c1 < anN k (fP gop pp l1).toInt (fP gx pp l1).toInt := by have z9 := ag56 l1 (by omega); rw [show fP gop pp l1 = fo56 l1 from z9.1.symm, show fP gx pp l1 = fx56 l1 from z9.2.1.symm]; exact hlt60
                            have cM60 : MSs G ad E E58 im ic md TT := MSs.next ti56 tb56 cO60 p8960 p9060 p9160 ⟨kd51, vl51, va_up im51 32 (fl pp), fun _ _ _ => rfl, cW60, cS60, c9260, c9360, fun _ _ _ _ _ _ => rfl⟩
                            refine v_istore (lv' := [(0, .ref (ad 68)), (1, .int p), (2, .int x), (3, .int v), (4, .int y2), (5, .int 1), (6, .int y13), (7, .int y31), (8, .int al), (9, .int y45), (10, .int 1)]) C [1, 2, 3, 4, 5, 6, 7, 8, 9, 10, 0] dX9_mendsTwo_86 (by decide) rfl ?_
                            refine v_aload_n C 0 dX9_mendsTwo_88 rfl rfl ?_
                            refine v_iload C 7 dX9_mendsTwo_89 rfl ?_
                            refine v_iload C 9 dX9_mendsTwo_91 rfl ?_
                            refine v_cVi C dX9_mendsTwo_93 lX9_292 mX9_changeLine 68 (by omega) c6860 (by decide) rfl (y_changeLine l G n ad _ hn c6860 (ln := m1) (c := d1) tk56 hk5 hN10 (by omega) (by omega) p8960 p9060 p9160 lsc60 y31 y45 hy31 hy45) ⟨by decide, by decide⟩ rfl (Nat.le_of_ble_eq_true rfl) ⟨Nat.zero_le _, Nat.zero_le _⟩ (fun r61 E62 hq63 => ?_)
                            obtain ⟨hcl64, hcO64⟩ := hq63
                            have cW64 := cW60.of (hcO64 68 (by omega) (by omega) (by omega)) (hcO64 69 (by omega) (by omega) (by omega)) (hcO64 70 (by omega) (by omega) (by omega))
                            have cS64 := cS60.go (fun j g1 g2 => hcO64 j (by omega) (by omega) (by omega))
                            have cR64 := cR60.go (fun j g1 g2 => hcO64 j (by omega) (by omega) (by omega))
                            have c9264 := (hcO64 92 (by omega) (by omega) (by omega)).trans c9260
                            have c9364 := (hcO64 93 (by omega) (by omega) (by omega)).trans c9360
                            have c9764 := (hcO64 97 (by omega) (by omega) (by omega)).trans c9760
                            have c8864 := (hcO64 88 (by omega) (by omega) (by omega)).trans c8860
                            have c6864 := (hcO64 68 (by omega) (by omega) (by omega)).trans c6860
                            have cO64 : ∀ j, j ≠ 68 → j ≠ 70 → (j < 79 ∨ 84 < j) → (j < 89 ∨ 93 < j) → E62 j = E j := fun j g1 g2 g3 g4 => (hcO64 j (by omega) (by omega) (by omega)).trans (cO60 j g1 g2 g3 g4)
                            rcases hcl64 with ⟨rfl, hlt64, p8964, p9064, p9164⟩ | ⟨rfl, hlt64, p8964, p9064, p9164⟩
                            · have lsc64 : okLs k N (edO (edO fo56 l1) m1) (edX (edO fo56 l1) (edX fo56 fx56 l1 c1) m1 d1) (edY (edO fo56 l1) (edY fo56 fy56 l1 c1) m1 d1) := ed_ok hk5 lsc60 (by omega) hlt64
                              have agc64 : ∀ j, j < N → (edO (edO fo56 l1) m1) j = (edO (edO (fP gop pp) l1) m1) j ∧ (edX (edO fo56 l1) (edX fo56 fx56 l1 c1) m1 d1) j = (edX (edO (fP gop pp) l1) (edX (fP gop pp) (fP gx pp) l1 c1) m1 d1) j ∧ (edY (edO fo56 l1) (edY fo56 fy56 l1 c1) m1 d1) j = (edY (edO (fP gop pp) l1) (edY (fP gop pp) (fP gy pp) l1 c1) m1 d1) j := ed_cg agc60 (by omega)
                              have hlp64 : d1 < anN k (fP gop pp m1).toInt (fP gx pp m1).toInt := by have z9 := ag56 m1 (by omega); rw [show fP gop pp m1 = fo56 m1 from z9.1.symm, show fP gx pp m1 = fx56 m1 from z9.2.1.symm, show fo56 m1 = edO fo56 l1 m1 from (upd_ne (by omega)).symm, show fx56 m1 = edX fo56 fx56 l1 c1 m1 from (upd_ne (by omega)).symm]; exact hlt64
                              have cM64 : MSs G ad E E62 im ic md TT := MSs.next ti56 tb56 cO64 p8964 p9064 p9164 ⟨kd51, vl51, va_up im51 32 (fl pp), fun _ _ _ => rfl, cW64, cS64, c9264, c9364, fun _ _ _ _ _ _ => rfl⟩
                              refine v_istore (lv' := [(0, .ref (ad 68)), (1, .int p), (2, .int x), (3, .int v), (4, .int y2), (5, .int 1), (6, .int y13), (7, .int y31), (8, .int 1), (9, .int y45), (10, .int 1)]) C [1, 2, 3, 4, 5, 6, 7, 8, 0, 9, 10] dX9_mendsTwo_96 (by decide) rfl ?_
                              refine v_iload C 8 dX9_mendsTwo_98 rfl ?_
                              refine b_if_eq C 114 dX9_mendsTwo_100 (by decide) (show (1 : Int32).toInt = 1 by decide) (fun c65 => absurd c65 (by decide)) (fun c65 => ?_)
                              refine v_aload_n C 0 dX9_mendsTwo_103 rfl rfl ?_
                              refine v_iload_n C 2 dX9_mendsTwo_104 rfl rfl ?_
                              refine v_iload_n C 3 dX9_mendsTwo_105 rfl rfl ?_
                              refine v_cVi C dX9_mendsTwo_106 lX9_295 mX9_isRight 68 (by omega) c6864 (by decide) rfl (y_isRight l G n ad _ hn cW64 cR64 cS64 tT56 hV c9264 c9364 p8964 p9064 p9164 hk5 hN10 tn56 lsc64 c9764 tL56 hL4 hrg x v hlw) ⟨by decide, by decide⟩ rfl (Nat.le_of_ble_eq_true rfl) ⟨Nat.zero_le _, Nat.zero_le _⟩ (fun r66 E67 hq68 => ?_)
                              obtain ⟨hri69, hFr69⟩ := hq68
                              have hMr69 := MSs.next ti56 tb56 cO64 p8964 p9064 p9164 hFr69
                              have hrt69 := (RT_list (ic := ic) (md := md) (law := x.toInt) (v := v.toInt) (N := N) (fo := (edO (edO fo56 l1) m1)) (fx := (edX (edO fo56 l1) (edX fo56 fx56 l1 c1) m1 d1)) (fy := (edY (edO fo56 l1) (edY fo56 fy56 l1 c1) m1 d1)) hen).symm.trans (RT_cg agc64)
                              rcases hri69 with ⟨rfl, hrz69⟩ | ⟨rfl, hrz69⟩
                              · have hri69 := hrt69.mp hrz69
                                obtain ⟨o70, x70, y70, kd70, vl70, im70, a70, b3270, W70, S70, r8970, r9070, r9170, r9270, r9370, O70⟩ := id hMr69
                                have e6870 := W70.2.2.1
                                have f8870 := (O70 88 (by decide) (by decide) (by omega) (by omega)).trans h88
                                refine b_if_eq C 114 dX9_mendsTwo_109 (by decide) (show (1 : Int32).toInt = 1 by decide) (fun c71 => absurd c71 (by decide)) (fun c71 => ?_)
                                refine v_iconst (v := 1) C dX9_mendsTwo_112 (by decide) ?_
                                exact v_ret C dX9_mendsTwo_113 rfl rfl ⟨Or.inl ⟨rfl, l1, c1, m1, d1, by omega, by omega, hlp28, hlp64, hri69⟩, hMr69⟩
                              · have hri69 := fun z => hrz69 (hrt69.mpr z)
                                obtain ⟨o72, x72, y72, kd72, vl72, im72, a72, b3272, W72, S72, r8972, r9072, r9172, r9272, r9372, O72⟩ := id hMr69
                                have e6872 := W72.2.2.1
                                have f8872 := (O72 88 (by decide) (by decide) (by omega) (by omega)).trans h88
                                refine b_if_eq C 114 dX9_mendsTwo_109 (by decide) (show (0 : Int32).toInt = 0 by decide) (fun c73 => ?_) (fun c73 => absurd c73 (by decide))
                                obtain ⟨x74, ex74⟩ : ∃ y : Int32, y = y45 + 1 := ⟨_, rfl⟩
                                have hx74 : x74.toInt = ((d1 : Int) + 1) := by rw [ex74]; exact ti_add hy45 (show (1 : Int32).toInt = 1 by decide) (by omega) (by omega)
                                refine v_iinc (v := x74) (lv' := [(0, .ref (ad 68)), (1, .int p), (2, .int x), (3, .int v), (4, .int y2), (5, .int 1), (6, .int y13), (7, .int y31), (8, .int 1), (9, .int x74), (10, .int 1)]) C 9 [1, 2, 3, 4, 5, 6, 7, 8, 9, 0, 10] dX9_mendsTwo_114 rfl (ex74.symm) (by decide) rfl ?_
                                refine v_goto C 68 dX9_mendsTwo_117 (by decide) ?_
                                refine v_sub (lv' := [(0, .ref (ad 68)), (1, .int p), (2, .int x), (3, .int v), (4, .int y2), (5, .int 1), (6, .int y13), (7, .int y31), (8, .int 1), (9, .int x74)]) [0, 1, 2, 3, 4, 5, 6, 7, 8, 9] rfl ?_
                                exact ih49 1 (d1 + 1) x74 E67 (show Int32.toInt x74 = ((d1 + 1 : Nat) : Int) by have := hx74; omega) (hMr69) (by omega) (fun h => absurd h (by decide)) (fun _ => by have := hlp64; omega) (fun d g1 g2 => by by_cases q : d < d1; (exact hallD d q g2); (have e9 : d = d1 := (by omega); subst e9; exact hri69)) (by omega)
                            · have hlp64 : ¬ d1 < anN k (fP gop pp m1).toInt (fP gx pp m1).toInt := by have z9 := ag56 m1 (by omega); rw [show fP gop pp m1 = fo56 m1 from z9.1.symm, show fP gx pp m1 = fx56 m1 from z9.2.1.symm, show fo56 m1 = edO fo56 l1 m1 from (upd_ne (by omega)).symm, show fx56 m1 = edX fo56 fx56 l1 c1 m1 from (upd_ne (by omega)).symm]; exact hlt64
                              have cM64 : MSs G ad E E62 im ic md TT := MSs.next ti56 tb56 cO64 p8964 p9064 p9164 ⟨kd51, vl51, va_up im51 32 (fl pp), fun _ _ _ => rfl, cW64, cS64, c9264, c9364, fun _ _ _ _ _ _ => rfl⟩
                              refine v_istore (lv' := [(0, .ref (ad 68)), (1, .int p), (2, .int x), (3, .int v), (4, .int y2), (5, .int 1), (6, .int y13), (7, .int y31), (8, .int 0), (9, .int y45), (10, .int 1)]) C [1, 2, 3, 4, 5, 6, 7, 8, 0, 9, 10] dX9_mendsTwo_96 (by decide) rfl ?_
                              refine v_iload C 8 dX9_mendsTwo_98 rfl ?_
                              refine b_if_eq C 114 dX9_mendsTwo_100 (by decide) (show (0 : Int32).toInt = 0 by decide) (fun c75 => ?_) (fun c75 => absurd c75 (by decide))
                              obtain ⟨x76, ex76⟩ : ∃ y : Int32, y = y45 + 1 := ⟨_, rfl⟩
                              have hx76 : x76.toInt = ((d1 : Int) + 1) := by rw [ex76]; exact ti_add hy45 (show (1 : Int32).toInt = 1 by decide) (by omega) (by omega)
                              refine v_iinc (v := x76) (lv' := [(0, .ref (ad 68)), (1, .int p), (2, .int x), (3, .int v), (4, .int y2), (5, .int 1), (6, .int y13), (7, .int y31), (8, .int 0), (9, .int x76), (10, .int 1)]) C 9 [1, 2, 3, 4, 5, 6, 7, 8, 9, 0, 10] dX9_mendsTwo_114 rfl (ex76.symm) (by decide) rfl ?_
                              refine v_goto C 68 dX9_mendsTwo_117 (by decide) ?_
                              refine v_sub (lv' := [(0, .ref (ad 68)), (1, .int p), (2, .int x), (3, .int v), (4, .int y2), (5, .int 1), (6, .int y13), (7, .int y31), (8, .int 0), (9, .int x76)]) [0, 1, 2, 3, 4, 5, 6, 7, 8, 9] rfl ?_
                              exact ih49 0 (d1 + 1) x76 E62 (show Int32.toInt x76 = ((d1 + 1 : Nat) : Int) by have := hx76; omega) (cM64) (by omega) (fun _ => by have := hlp64; omega) (fun h => absurd (show (0 : Int32).toInt = 0 by decide) h) (fun d g1 g2 => by by_cases q : d < d1; (exact hallD d q g2); (have e9 : d = d1 := (by omega); subst e9; exact absurd g2 hlp64)) (by omega)
                      exact LP43 100000 1 0 0 E32 (show Int32.toInt 0 = ((0 : Nat) : Int) by have := (show (0 : Int32).toInt = 0 by decide); omega) (hI33) (by omega) (fun h => absurd h (by decide)) (fun _ => Nat.zero_le _) (fun d h => absurd h (by omega)) (by omega)
                exact LP30 100000 (l1 + 1) x29 E26 (show Int32.toInt x29 = ((l1 + 1 : Nat) : Int) by have := hx29; omega) (cM28) (by omega) (by omega) (fun m d g1 g2 => by exfalso; omega) (by omega)
              · have hlp28 : ¬ c1 < anN k (fP gop pp l1).toInt (fP gx pp l1).toInt := by have z9 := ag24 l1 (by omega); rw [show fP gop pp l1 = fo24 l1 from z9.1.symm, show fP gx pp l1 = fx24 l1 from z9.2.1.symm]; exact hlt28
                have cM28 : MSs G ad E E26 im ic md TT := MSs.next ti24 tb24 cO28 p8928 p9028 p9128 ⟨kd19, vl19, va_up im19 32 (fl pp), fun _ _ _ => rfl, cW28, cS28, c9228, c9328, fun _ _ _ _ _ _ => rfl⟩
                refine v_istore (lv' := [(0, .ref (ad 68)), (1, .int p), (2, .int x), (3, .int v), (4, .int y2), (5, .int 0), (6, .int y13)]) C [1, 2, 3, 4, 5, 0, 6] dX9_mendsTwo_38 (by decide) rfl ?_
                have h5m := an_5 (o := (fP gop pp l1).toInt) (x := (fP gx pp l1).toInt) hk5
                refine v_iload C 4 dX9_mendsTwo_40 rfl ?_
                refine v_iconst (v := 1) C dX9_mendsTwo_42 (by decide) ?_
                refine v_iadd C dX9_mendsTwo_43 ?_
                refine v_top (fun x77 ex77 => ?_)
                have hx77 : x77.toInt = ((l1 : Int) + 1) := by rw [ex77]; exact ti_add hy2 (show (1 : Int32).toInt = 1 by decide) (by omega) (by omega)
                refine v_istore (lv' := [(0, .ref (ad 68)), (1, .int p), (2, .int x), (3, .int v), (4, .int y2), (5, .int 0), (6, .int y13), (7, .int x77)]) C [1, 2, 3, 4, 5, 6, 7, 0] dX9_mendsTwo_44 (by decide) rfl ?_
                have LP78 : ∀ (t : Nat) (m1 : Nat) (y79 : Int32) (E80 : Nat → va_E), (y79.toInt = (m1 : Int)) → (MSs G ad E E80 im ic md TT) → (l1 < m1) → (m1 ≤ N) → (∀ m d, l1 < m → m < m1 → d < anN k (fP gop pp m).toInt (fP gx pp m).toInt → ¬ RTp k ic md TT Y La Lb x.toInt v.toInt N (edO (edO (fP gop pp) l1) m) (edX (edO (fP gop pp) l1) (edX (fP gop pp) (fP gx pp) l1 c1) m d) (edY (edO (fP gop pp) l1) (edY (fP gop pp) (fP gy pp) l1 c1) m d)) → (N : Int) - (m1 : Int) < (t : Int) → V X G A 11 (QI X G A (n) ad (fun r E' => ((r = 1 ∧ MD2 k (RTp k ic md TT Y La Lb x.toInt v.toInt N) N (fP gop pp) (fP gx pp) (fP gy pp)) ∨ (r = 0 ∧ ¬ MD2 k (RTp k ic md TT Y La Lb x.toInt v.toInt N) N (fP gop pp) (fP gx pp) (fP gy pp))) ∧ MSs G ad E E' im ic md TT)) (n) ad 0 0 E80 46 [(0, .ref (ad 68)), (1, .int p), (2, .int x), (3, .int v), (4, .int y2), (5, .int 0), (6, .int y13), (7, .int y79)] [] := by
                  intro t84
                  induction t84 with
                  | zero => intro m1 y79 E80 hy79 hI81 hq82 hq83 hallM hm86; exfalso; omega
                  | succ t84 ih85 =>
                    intro m1 y79 E80 hy79 hI81 hq82 hq83 hallM hm86
                    obtain ⟨o87, x87, y87, kd87, vl87, im87, a87, b3287, W87, S87, r8987, r9087, r9187, r9287, r9387, O87⟩ := id hI81
                    have e6887 := W87.2.2.1
                    have f8887 := (O87 88 (by decide) (by decide) (by omega) (by omega)).trans h88
                    refine v_iload C 7 dX9_mendsTwo_46 rfl ?_
                    refine v_aload_n C 0 dX9_mendsTwo_48 rfl rfl ?_
                    refine v_getr C 68 dX9_mendsTwo_49 fX9_85 (by omega) e6887 rfl rfl ?_
                    refine v_iload_n C 1 dX9_mendsTwo_52 rfl rfl ?_
                    refine v_ald (v := fl pp) C 88 dX9_mendsTwo_53 (by omega) f8887 (ti_in hp (by omega) (by omega)) (by rw [ti_cl hp, show Int.toNat (pp : Int) = pp by omega]) ?_
                    refine b_icmp_ge C 126 dX9_mendsTwo_54 (by decide) hy79 hN (fun c88 => ?_) (fun c88 => ?_)
                    · obtain ⟨x89, ex89⟩ : ∃ y : Int32, y = y13 + 1 := ⟨_, rfl⟩
                      have hx89 : x89.toInt = ((c1 : Int) + 1) := by rw [ex89]; exact ti_add hy13 (show (1 : Int32).toInt = 1 by decide) (by omega) (by omega)
                      refine v_iinc (v := x89) (lv' := [(0, .ref (ad 68)), (1, .int p), (2, .int x), (3, .int v), (4, .int y2), (5, .int 0), (6, .int x89), (7, .int y79)]) C 6 [1, 2, 3, 4, 5, 6, 0, 7] dX9_mendsTwo_126 rfl (ex89.symm) (by decide) rfl ?_
                      refine v_goto C 20 dX9_mendsTwo_129 (by decide) ?_
                      refine v_sub (lv' := [(0, .ref (ad 68)), (1, .int p), (2, .int x), (3, .int v), (4, .int y2), (5, .int 0), (6, .int x89)]) [0, 1, 2, 3, 4, 5, 6] rfl ?_
                      exact ih17 0 (c1 + 1) x89 E80 (show Int32.toInt x89 = ((c1 + 1 : Nat) : Int) by have := hx89; omega) (hI81) (by omega) (fun _ => by have := hlp28; omega) (fun h => absurd (show (0 : Int32).toInt = 0 by decide) h) (fun c m d g1 g2 g3 g4 g5 => by by_cases q : c < c1; (exact hallC c m d q g2 g3 g4 g5); (have e9 : c = c1 := (by omega); subst e9; exact absurd g4 hlp28)) (by omega)
                    · refine v_iload C 5 dX9_mendsTwo_57 rfl ?_
                      refine b_if_eq C 126 dX9_mendsTwo_59 (by decide) (show (0 : Int32).toInt = 0 by decide) (fun c90 => ?_) (fun c90 => absurd c90 (by decide))
                      obtain ⟨x91, ex91⟩ : ∃ y : Int32, y = y13 + 1 := ⟨_, rfl⟩
                      have hx91 : x91.toInt = ((c1 : Int) + 1) := by rw [ex91]; exact ti_add hy13 (show (1 : Int32).toInt = 1 by decide) (by omega) (by omega)
                      refine v_iinc (v := x91) (lv' := [(0, .ref (ad 68)), (1, .int p), (2, .int x), (3, .int v), (4, .int y2), (5, .int 0), (6, .int x91), (7, .int y79)]) C 6 [1, 2, 3, 4, 5, 6, 0, 7] dX9_mendsTwo_126 rfl (ex91.symm) (by decide) rfl ?_
                      refine v_goto C 20 dX9_mendsTwo_129 (by decide) ?_
                      refine v_sub (lv' := [(0, .ref (ad 68)), (1, .int p), (2, .int x), (3, .int v), (4, .int y2), (5, .int 0), (6, .int x91)]) [0, 1, 2, 3, 4, 5, 6] rfl ?_
                      exact ih17 0 (c1 + 1) x91 E80 (show Int32.toInt x91 = ((c1 + 1 : Nat) : Int) by have := hx91; omega) (hI81) (by omega) (fun _ => by have := hlp28; omega) (fun h => absurd (show (0 : Int32).toInt = 0 by decide) h) (fun c m d g1 g2 g3 g4 g5 => by by_cases q : c < c1; (exact hallC c m d q g2 g3 g4 g5); (have e9 : c = c1 := (by omega); subst e9; exact absurd g4 hlp28)) (by omega)
                exact LP78 100000 (l1 + 1) x77 E26 (show Int32.toInt x77 = ((l1 + 1 : Nat) : Int) by have := hx77; omega) (cM28) (by omega) (by omega) (fun m d g1 g2 => by exfalso; omega) (by omega)
        exact LP11 100000 1 0 0 E3 (show Int32.toInt 0 = ((0 : Nat) : Int) by have := (show (0 : Int32).toInt = 0 by decide); omega) (hI4) (by omega) (fun h => absurd h (by decide)) (fun _ => Nat.zero_le _) (fun c m d h => absurd h (by omega)) (by omega)
  exact LP1 100000 0 0 E (show Int32.toInt 0 = ((0 : Nat) : Int) by have := (show (0 : Int32).toInt = 0 by decide); omega) (⟨o0, x0, y0, kd, vl, im, fun _ _ _ _ => rfl, h32, hW, hS, h89, h90, h91, h92, h93, fun _ _ _ _ _ => rfl⟩) (by omega) (fun l c m d h => absurd h (by omega)) (by omega)

set_option maxRecDepth 20000 in
theorem y_keepMended (l : Launch) (G : Gl) (n : Nat) (ad : Nat → Nat) (E : Nat → va_E) (hn : 98 ≤ n) {im : Nat → Int32} (h68 : E 68 = ob 9 (rX9 ad) im) {fo fx fy k0 k1 k2 : Nat → Int32} (h89 : E 89 = aI G 10 fo) (h90 : E 90 = aI G 10 fx) (h91 : E 91 = aI G 10 fy) (h94 : E 94 = aI G 10 k0) (h95 : E 95 = aI G 10 k1) (h96 : E 96 = aI G 10 k2) (h32 : 0 ≤ (im 32).toInt ∧ (im 32).toInt ≤ 10) : CtV l G yX9_keepMended cX9_keepMended 2 0 0 (n) ad E [.ref (ad 68)] (fun E' => True) := by
  refine CtV.of (by decide) (Nat.le_of_ble_eq_true rfl) (fun X A C => ?_)
  refine v_sub (lv' := [(0, .ref (ad 68))]) [0] rfl ?_
  obtain ⟨N, hnN⟩ : ∃ q : Nat, (im 32).toInt = (q : Int) := ⟨(im 32).toInt.toNat, by omega⟩
  have hn39 : (va_up im 39 (im 32) 32).toInt = (N : Int) := hnN
  refine v_aload_n C 0 dX9_keepMended_0 rfl rfl ?_
  refine v_aload_n C 0 dX9_keepMended_1 rfl rfl ?_
  refine v_geti (v := im 32) C 68 dX9_keepMended_2 fX9_200 (by omega) h68 rfl rfl ?_
  refine v_puti C 68 dX9_keepMended_5 fX9_289 (by omega) h68 rfl rfl rfl rfl (fun E1 hE1_68 oE1 => ?_)
  have hE1_89 := (oE1 89 (by decide)).trans h89
  have hE1_90 := (oE1 90 (by decide)).trans h90
  have hE1_91 := (oE1 91 (by decide)).trans h91
  have hE1_94 := (oE1 94 (by decide)).trans h94
  have hE1_95 := (oE1 95 (by decide)).trans h95
  have hE1_96 := (oE1 96 (by decide)).trans h96
  refine v_iconst (v := 0) C dX9_keepMended_8 (by decide) ?_
  refine v_istore_n (lv' := [(0, .ref (ad 68)), (1, .int 0)]) C [1, 0] dX9_keepMended_9 rfl (by decide) rfl ?_
  have LP2 : ∀ (t : Nat) (i1 : Nat) (y3 : Int32) (E4 : Nat → va_E) (m94 : Nat → Int32) (m95 : Nat → Int32) (m96 : Nat → Int32), (y3.toInt = (i1 : Int)) → (E4 94 = aI G 10 m94) → (E4 95 = aI G 10 m95) → (E4 96 = aI G 10 m96) → (∀ j, j ≠ 94 → j ≠ 95 → j ≠ 96 → E4 j = E1 j) → (i1 ≤ N) → (N : Int) - (i1 : Int) < (t : Int) → V X G A 2 (QV X G A (n) ad (fun E' => True)) (n) ad 0 0 E4 10 [(0, .ref (ad 68)), (1, .int y3)] [] := by
    intro t7
    induction t7 with
    | zero => intro i1 y3 E4 m94 m95 m96 hy3 hE4_94 hE4_95 hE4_96 hfr5 hq6 hm9; exfalso; omega
    | succ t7 ih8 =>
      intro i1 y3 E4 m94 m95 m96 hy3 hE4_94 hE4_95 hE4_96 hfr5 hq6 hm9
      have hE4_68 := (hfr5 68 (by decide) (by decide) (by decide)).trans hE1_68
      have hE4_89 := (hfr5 89 (by decide) (by decide) (by decide)).trans hE1_89
      have hE4_90 := (hfr5 90 (by decide) (by decide) (by decide)).trans hE1_90
      have hE4_91 := (hfr5 91 (by decide) (by decide) (by decide)).trans hE1_91
      refine v_iload_n C 1 dX9_keepMended_10 rfl rfl ?_
      refine v_aload_n C 0 dX9_keepMended_11 rfl rfl ?_
      refine v_geti (v := (va_up im 39 (im 32)) 32) C 68 dX9_keepMended_12 fX9_200 (by omega) hE4_68 rfl rfl ?_
      refine b_icmp_ge C 60 dX9_keepMended_15 (by decide) hy3 hn39 (fun c10 => ?_) (fun c10 => ?_)
      · exact v_vret C dX9_keepMended_60 rfl trivial
      · refine v_aload_n C 0 dX9_keepMended_18 rfl rfl ?_
        refine v_getr C 68 dX9_keepMended_19 fX9_103 (by omega) hE4_68 rfl rfl ?_
        refine v_iload_n C 1 dX9_keepMended_22 rfl rfl ?_
        refine v_aload_n C 0 dX9_keepMended_23 rfl rfl ?_
        refine v_getr C 68 dX9_keepMended_24 fX9_88 (by omega) hE4_68 rfl rfl ?_
        refine v_iload_n C 1 dX9_keepMended_27 rfl rfl ?_
        refine v_ald (v := fo i1) C 89 dX9_keepMended_28 (by omega) hE4_89 (ti_in hy3 (by omega) (by omega)) (by rw [ti_cl hy3, show Int.toNat (i1 : Int) = i1 by omega]) ?_
        refine v_ast C 94 dX9_keepMended_29 (by omega) hE4_94 (ti_in hy3 (by omega) (by omega)) (fun E11 hE11_94 oE11 => ?_)
        rw [ti_cl hy3, show Int.toNat (i1 : Int) = i1 by omega] at hE11_94
        have hE11_68 := (oE11 68 (by decide)).trans hE4_68
        have hE11_89 := (oE11 89 (by decide)).trans hE4_89
        have hE11_90 := (oE11 90 (by decide)).trans hE4_90
        have hE11_91 := (oE11 91 (by decide)).trans hE4_91
        have hE11_95 := (oE11 95 (by decide)).trans hE4_95
        have hE11_96 := (oE11 96 (by decide)).trans hE4_96
        refine v_aload_n C 0 dX9_keepMended_30 rfl rfl ?_
        refine v_getr C 68 dX9_keepMended_31 fX9_106 (by omega) hE11_68 rfl rfl ?_
        refine v_iload_n C 1 dX9_keepMended_34 rfl rfl ?_
        refine v_aload_n C 0 dX9_keepMended_35 rfl rfl ?_
        refine v_getr C 68 dX9_keepMended_36 fX9_91 (by omega) hE11_68 rfl rfl ?_
        refine v_iload_n C 1 dX9_keepMended_39 rfl rfl ?_
        refine v_ald (v := fx i1) C 90 dX9_keepMended_40 (by omega) hE11_90 (ti_in hy3 (by omega) (by omega)) (by rw [ti_cl hy3, show Int.toNat (i1 : Int) = i1 by omega]) ?_
        refine v_ast C 95 dX9_keepMended_41 (by omega) hE11_95 (ti_in hy3 (by omega) (by omega)) (fun E12 hE12_95 oE12 => ?_)
        rw [ti_cl hy3, show Int.toNat (i1 : Int) = i1 by omega] at hE12_95
        have hE12_68 := (oE12 68 (by decide)).trans hE11_68
        have hE12_89 := (oE12 89 (by decide)).trans hE11_89
        have hE12_90 := (oE12 90 (by decide)).trans hE11_90
        have hE12_91 := (oE12 91 (by decide)).trans hE11_91
        have hE12_94 := (oE12 94 (by decide)).trans hE11_94
        have hE12_96 := (oE12 96 (by decide)).trans hE11_96
        refine v_aload_n C 0 dX9_keepMended_42 rfl rfl ?_
        refine v_getr C 68 dX9_keepMended_43 fX9_109 (by omega) hE12_68 rfl rfl ?_
        refine v_iload_n C 1 dX9_keepMended_46 rfl rfl ?_
        refine v_aload_n C 0 dX9_keepMended_47 rfl rfl ?_
        refine v_getr C 68 dX9_keepMended_48 fX9_94 (by omega) hE12_68 rfl rfl ?_
        refine v_iload_n C 1 dX9_keepMended_51 rfl rfl ?_
        refine v_ald (v := fy i1) C 91 dX9_keepMended_52 (by omega) hE12_91 (ti_in hy3 (by omega) (by omega)) (by rw [ti_cl hy3, show Int.toNat (i1 : Int) = i1 by omega]) ?_
        refine v_ast C 96 dX9_keepMended_53 (by omega) hE12_96 (ti_in hy3 (by omega) (by omega)) (fun E13 hE13_96 oE13 => ?_)
        rw [ti_cl hy3, show Int.toNat (i1 : Int) = i1 by omega] at hE13_96
        have hE13_68 := (oE13 68 (by decide)).trans hE12_68
        have hE13_89 := (oE13 89 (by decide)).trans hE12_89
        have hE13_90 := (oE13 90 (by decide)).trans hE12_90
        have hE13_91 := (oE13 91 (by decide)).trans hE12_91
        have hE13_94 := (oE13 94 (by decide)).trans hE12_94
        have hE13_95 := (oE13 95 (by decide)).trans hE12_95
        obtain ⟨x14, ex14⟩ : ∃ y : Int32, y = y3 + 1 := ⟨_, rfl⟩
        have hx14 : x14.toInt = ((i1 : Int) + 1) := by rw [ex14]; exact ti_add hy3 (show (1 : Int32).toInt = 1 by decide) (by omega) (by omega)
        refine v_iinc (v := x14) (lv' := [(0, .ref (ad 68)), (1, .int x14)]) C 1 [1, 0] dX9_keepMended_54 rfl (ex14.symm) (by decide) rfl ?_
        refine v_goto C 10 dX9_keepMended_57 (by decide) ?_
        exact ih8 (i1 + 1) x14 E13 (upd m94 i1 (fo i1)) (upd m95 i1 (fx i1)) (upd m96 i1 (fy i1)) (show Int32.toInt x14 = ((i1 + 1 : Nat) : Int) by have := hx14; omega) hE13_94 hE13_95 hE13_96 (fun j g0 g1 g2 => ((oE13 j g2).trans ((oE12 j g1).trans ((oE11 j g0).trans (hfr5 j g0 g1 g2))))) (by omega) (by omega)
  exact LP2 100000 0 0 E1 k0 k1 k2 (show Int32.toInt 0 = ((0 : Nat) : Int) by have := (show (0 : Int32).toInt = 0 by decide); omega) hE1_94 hE1_95 hE1_96 (fun j _ _ _ => rfl) (by omega) (by omega)

