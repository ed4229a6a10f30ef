set_option maxRecDepth 20000 in
theorem g_isRange (l : Launch) (G : Gl) (n : Nat) (ad : Nat → Nat) (E : Nat → va_E) (a : Int32) (b : Int32) : CtI l G yX8_isRange cX8_isRange 2 .boolean 1 20 (n) ad E [.int a, .int b] (fun r E' => ((r = 1 ∧ (okOD a.toInt b.toInt)) ∨ (r = 0 ∧ ¬ (okOD a.toInt b.toInt))) ∧ E = E') := by
  refine CtI.of (by decide) (Nat.le_of_ble_eq_true rfl) (fun X A C => ?_)
  refine v_sub (lv' := [(0, .int a), (1, .int b)]) [0, 1] rfl ?_
  refine v_iload_n C 0 dX8_isRange_0 rfl rfl ?_
  refine v_cSp C dX8_isRange_1 lX8_162 mX8_isMoment (c_isMoment l G _ ad _ a) ⟨by decide, by decide⟩ rfl (Nat.le_of_ble_eq_true rfl) ⟨Nat.zero_le _, Nat.zero_le _⟩ (fun r1 hp2 => ?_)
  rcases hp2 with ⟨rfl, hp2⟩ | ⟨rfl, hp2⟩
  · refine b_if_eq C 31 dX8_isRange_4 (by decide) (show (1 : Int32).toInt = 1 by decide) (fun c3 => absurd c3 (by decide)) (fun c3 => ?_)
    refine v_iload_n C 1 dX8_isRange_7 rfl rfl ?_
    refine v_cSp C dX8_isRange_8 lX8_162 mX8_isMoment (c_isMoment l G _ ad _ b) ⟨by decide, by decide⟩ rfl (Nat.le_of_ble_eq_true rfl) ⟨Nat.zero_le _, Nat.zero_le _⟩ (fun r4 hp5 => ?_)
    rcases hp5 with ⟨rfl, hp5⟩ | ⟨rfl, hp5⟩
    · refine b_if_eq C 31 dX8_isRange_11 (by decide) (show (1 : Int32).toInt = 1 by decide) (fun c6 => absurd c6 (by decide)) (fun c6 => ?_)
      refine v_iload_n C 0 dX8_isRange_14 rfl rfl ?_
      refine v_iload_n C 1 dX8_isRange_15 rfl rfl ?_
      refine b_icmp_gt C 31 dX8_isRange_16 (by decide) (rfl : Int32.toInt a = _) (rfl : Int32.toInt b = _) (fun c7 => ?_) (fun c7 => ?_)
      · refine v_iconst (v := 0) C dX8_isRange_31 (by decide) ?_
        exact v_ret C dX8_isRange_32 rfl rfl ⟨Or.inr ⟨rfl, by unfold okOD; omega⟩, rfl⟩
      · refine v_iload_n C 1 dX8_isRange_19 rfl rfl ?_
        refine v_iload_n C 0 dX8_isRange_20 rfl rfl ?_
        refine v_isub C dX8_isRange_21 ?_
        refine v_top (fun x8 ex8 => ?_)
        have hx8 : x8.toInt = (b.toInt - a.toInt) := by rw [ex8]; exact ti_sub (rfl : Int32.toInt b = _) (rfl : Int32.toInt a = _) (by omega) (by omega)
        refine v_ldc C dX8_isRange_22 kX8_243 ?_
        refine b_icmp_gt C 31 dX8_isRange_24 (by decide) hx8 (show (2000000 : Int32).toInt = 2000000 by decide) (fun c9 => ?_) (fun c9 => ?_)
        · refine v_iconst (v := 0) C dX8_isRange_31 (by decide) ?_
          exact v_ret C dX8_isRange_32 rfl rfl ⟨Or.inr ⟨rfl, by unfold okOD; omega⟩, rfl⟩
        · refine v_iconst (v := 1) C dX8_isRange_27 (by decide) ?_
          refine v_goto C 32 dX8_isRange_28 (by decide) ?_
          exact v_ret C dX8_isRange_32 rfl rfl ⟨Or.inl ⟨rfl, by unfold okOD; omega⟩, rfl⟩
    · refine b_if_eq C 31 dX8_isRange_11 (by decide) (show (0 : Int32).toInt = 0 by decide) (fun c10 => ?_) (fun c10 => absurd c10 (by decide))
      refine v_iconst (v := 0) C dX8_isRange_31 (by decide) ?_
      exact v_ret C dX8_isRange_32 rfl rfl ⟨Or.inr ⟨rfl, by unfold okOD; omega⟩, rfl⟩
  · refine b_if_eq C 31 dX8_isRange_4 (by decide) (show (0 : Int32).toInt = 0 by decide) (fun c11 => ?_) (fun c11 => absurd c11 (by decide))
    refine v_iconst (v := 0) C dX8_isRange_31 (by decide) ?_
    exact v_ret C dX8_isRange_32 rfl rfl ⟨Or.inr ⟨rfl, by unfold okOD; omega⟩, rfl⟩

set_option maxRecDepth 20000 in
theorem g_isReach (l : Launch) (G : Gl) (n : Nat) (ad : Nat → Nat) (E : Nat → va_E) (a : Int32) (m : Int32) (z : Int32) (hz : z.toInt ≤ 2000000) : CtI l G yX8_isReach cX8_isReach 3 .boolean 1 20 (n) ad E [.int a, .int m, .int z] (fun r E' => ((r = 1 ∧ (okRow a.toInt m.toInt z.toInt)) ∨ (r = 0 ∧ ¬ (okRow a.toInt m.toInt z.toInt))) ∧ E = E') := by
  refine CtI.of (by decide) (Nat.le_of_ble_eq_true rfl) (fun X A C => ?_)
  refine v_sub (lv' := [(0, .int a), (1, .int m), (2, .int z)]) [0, 1, 2] rfl ?_
  refine v_iload_n C 0 dX8_isReach_0 rfl rfl ?_
  refine v_cSp C dX8_isReach_1 lX8_162 mX8_isMoment (c_isMoment l G _ ad _ a) ⟨by decide, by decide⟩ rfl (Nat.le_of_ble_eq_true rfl) ⟨Nat.zero_le _, Nat.zero_le _⟩ (fun r1 hp2 => ?_)
  rcases hp2 with ⟨rfl, hp2⟩ | ⟨rfl, hp2⟩
  · refine b_if_eq C 29 dX8_isReach_4 (by decide) (show (1 : Int32).toInt = 1 by decide) (fun c3 => absurd c3 (by decide)) (fun c3 => ?_)
    refine v_iload_n C 1 dX8_isReach_7 rfl rfl ?_
    refine b_if_lt C 29 dX8_isReach_8 (by decide) (rfl : Int32.toInt m = _) (fun c4 => ?_) (fun c4 => ?_)
    · refine v_iconst (v := 0) C dX8_isReach_29 (by decide) ?_
      exact v_ret C dX8_isReach_30 rfl rfl ⟨Or.inr ⟨rfl, by unfold okRow; omega⟩, rfl⟩
    · refine v_iload_n C 1 dX8_isReach_11 rfl rfl ?_
      refine v_iload_n C 2 dX8_isReach_12 rfl rfl ?_
      refine b_icmp_gt C 29 dX8_isReach_13 (by decide) (rfl : Int32.toInt m = _) (rfl : Int32.toInt z = _) (fun c5 => ?_) (fun c5 => ?_)
      · refine v_iconst (v := 0) C dX8_isReach_29 (by decide) ?_
        exact v_ret C dX8_isReach_30 rfl rfl ⟨Or.inr ⟨rfl, by unfold okRow; omega⟩, rfl⟩
      · refine v_iload_n C 0 dX8_isReach_16 rfl rfl ?_
        refine v_iload_n C 1 dX8_isReach_17 rfl rfl ?_
        refine v_iadd C dX8_isReach_18 ?_
        refine v_top (fun x6 ex6 => ?_)
        have hx6 : x6.toInt = (a.toInt + m.toInt) := by rw [ex6]; exact ti_add (rfl : Int32.toInt a = _) (rfl : Int32.toInt m = _) (by omega) (by omega)
        refine v_cSp C dX8_isReach_19 lX8_162 mX8_isMoment (c_isMoment l G _ ad _ x6) ⟨by decide, by decide⟩ rfl (Nat.le_of_ble_eq_true rfl) ⟨Nat.zero_le _, Nat.zero_le _⟩ (fun r7 hp8 => ?_)
        rw [hx6] at hp8
        rcases hp8 with ⟨rfl, hp8⟩ | ⟨rfl, hp8⟩
        · refine b_if_eq C 29 dX8_isReach_22 (by decide) (show (1 : Int32).toInt = 1 by decide) (fun c9 => absurd c9 (by decide)) (fun c9 => ?_)
          refine v_iconst (v := 1) C dX8_isReach_25 (by decide) ?_
          refine v_goto C 30 dX8_isReach_26 (by decide) ?_
          exact v_ret C dX8_isReach_30 rfl rfl ⟨Or.inl ⟨rfl, by unfold okRow; omega⟩, rfl⟩
        · refine b_if_eq C 29 dX8_isReach_22 (by decide) (show (0 : Int32).toInt = 0 by decide) (fun c10 => ?_) (fun c10 => absurd c10 (by decide))
          refine v_iconst (v := 0) C dX8_isReach_29 (by decide) ?_
          exact v_ret C dX8_isReach_30 rfl rfl ⟨Or.inr ⟨rfl, by unfold okRow; omega⟩, rfl⟩
  · refine b_if_eq C 29 dX8_isReach_4 (by decide) (show (0 : Int32).toInt = 0 by decide) (fun c11 => ?_) (fun c11 => absurd c11 (by decide))
    refine v_iconst (v := 0) C dX8_isReach_29 (by decide) ?_
    exact v_ret C dX8_isReach_30 rfl rfl ⟨Or.inr ⟨rfl, by unfold okRow; omega⟩, rfl⟩

set_option maxRecDepth 20000 in
theorem k_gatherOdds (l : Launch) (G : Gl) (n : Nat) (ad : Nat → Nat) (E : Nat → va_E) {k : Nat} {ic md fl gop gx gy rf rto ron rat rbe rtd rm fv : Nat → Int32} {kn : Int32} (hKc : KCl G ad k ic md kn fl gop gx gy rf rto ron rat rbe rtd rm fv E) (hV : ∀ z, z < k → RZv ic rf rto ron rat rbe rtd rm fv z) (hOd : OdC G ad k ic md (TTz ic md rf rto ron rat rbe rtd rm fv kn.toInt) E) (x : Int32) (y : Int32) (hab : okOD x.toInt y.toInt) : CtV l G yX8_gatherOdds cX8_gatherOdds 3 4 102 (98 + 9 * k) ad E [.ref (ad 0), .int x, .int y] (fun E' => GOp G ad k ic md (TTz ic md rf rto ron rat rbe rtd rm fv kn.toInt) x y E' ∧ KSt G ad k ic md (TTz ic md rf rto ron rat rbe rtd rm fv kn.toInt) E' ∧ ZCl G ad k ic md rf rto ron rat rbe rtd rm fv E' ∧ ∀ j, j < 98 → j ≠ 45 → j ≠ 46 → j ≠ 47 → E' j = E j) := by
  refine CtV.of (by decide) (Nat.le_of_ble_eq_true rfl) (fun X A C => ?_)
  refine v_sub (lv' := [(0, .ref (ad 0)), (1, .int x), (2, .int y)]) [0, 1, 2] rfl ?_
  obtain ⟨⟨io, h0, hio⟩, hC, ⟨iz, fz, h6, hzk, h7, hfz⟩, ⟨fp, h8, hfp⟩, hPg, hbl, ⟨i48, h48⟩, ⟨i49, h49⟩, ⟨pv, h50⟩, hZ, hk5⟩ := id hKc
  obtain ⟨ms, ld, ys, hC1, hC2, hC3, hC4, hC5, hP, hF⟩ := id hC
  obtain ⟨iq, ls, mk, h45, h46, h47, hq2, h5b, hOI⟩ := id hOd
  refine v_aload_n C 0 dX8_gatherOdds_0 rfl rfl ?_
  refine v_getr C 0 dX8_gatherOdds_1 fX8_19 (by omega) h0 rfl rfl ?_
  refine v_aload_n C 0 dX8_gatherOdds_4 rfl rfl ?_
  refine v_geti (v := io 7) C 0 dX8_gatherOdds_5 fX8_56 (by omega) h0 rfl rfl ?_
  refine v_cVv C dX8_gatherOdds_8 lX8_205 mX7_refresh 6 (by omega) h6 (by decide) rfl (g_refreshAll l G 0 ad _ hP hV h6 hzk h7 hfz hk5 hZ (io 7)) ⟨by decide, by decide⟩ rfl (Nat.le_of_ble_eq_true rfl) ⟨Nat.zero_le _, Nat.zero_le _⟩ (fun E1 hq2 => ?_)
  obtain ⟨hZ1, hY1, hO1⟩ := hq2
  rw [hio] at hY1
  have hK := hKc.kst hV hO1 hY1
  have rE1_0 := (hO1 0 (by omega)).trans h0
  have rE1_6 := (hO1 6 (by omega)).trans h6
  have rE1_1 := (hO1 1 (by omega)).trans hC1
  have rE1_45 := (hO1 45 (by omega)).trans h45
  have rE1_46 := (hO1 46 (by omega)).trans h46
  have rE1_47 := (hO1 47 (by omega)).trans h47
  refine v_aload_n C 0 dX8_gatherOdds_11 rfl rfl ?_
  refine v_getr C 0 dX8_gatherOdds_12 fX8_33 (by omega) rE1_0 rfl rfl ?_
  refine v_iload_n C 1 dX8_gatherOdds_15 rfl rfl ?_
  refine v_iload_n C 2 dX8_gatherOdds_16 rfl rfl ?_
  refine v_aload_n C 0 dX8_gatherOdds_17 rfl rfl ?_
  refine v_getr C 0 dX8_gatherOdds_18 fX8_19 (by omega) rE1_0 rfl rfl ?_
  refine v_aload_n C 0 dX8_gatherOdds_21 rfl rfl ?_
  refine v_getr C 0 dX8_gatherOdds_22 fX8_12 (by omega) rE1_0 rfl rfl ?_
  have cc1 := (hO1 1 (by decide)).trans hC1
  have cc2 := (hO1 2 (by decide)).trans hC2
  have cc3 := (hO1 3 (by decide)).trans hC3
  have cc4 := (hO1 4 (by decide)).trans hC4
  have cc5 := (hO1 5 (by decide)).trans hC5
  refine v_cVp C dX8_gatherOdds_25 lX8_280 mX0_days 1 (by omega) rE1_1 (by decide) rfl (c_days l G _ ad _ (by omega) cc1 cc2 cc3 cc4 cc5 hP hF) ⟨by decide, by decide⟩ rfl (Nat.le_of_ble_eq_true rfl) ⟨Nat.zero_le _, Nat.zero_le _⟩ (fun r3 hp4 => ?_)
  refine v_cVv C dX8_gatherOdds_28 lX8_284 mX4_gather 45 (by omega) rE1_45 (by decide) rfl (g_gather l G 0 ad _ hK rE1_45 rE1_46 rE1_47 h5b hOI x y r3 hab hp4) ⟨by decide, by decide⟩ rfl (Nat.le_of_ble_eq_true rfl) ⟨Nat.zero_le _, Nat.zero_le _⟩ (fun E5 hq6 => ?_)
  exact v_vret C dX8_gatherOdds_31 rfl ⟨hq6.1, hK.go (fun j hj => hq6.2 j (by omega) (by omega) (by omega)), hZ1.up (fun j hj => hq6.2 j (by omega) (by omega) (by omega)), fun j g0 g1 g2 g3 => (hq6.2 j g1 g2 g3).trans (hO1 j g0)⟩

set_option maxRecDepth 20000 in
theorem k_odds (l : Launch) (G : Gl) (n : Nat) (ad : Nat → Nat) (E : Nat → va_E) {k : Nat} {ic md fl gop gx gy rf rto ron rat rbe rtd rm fv : Nat → Int32} {kn : Int32} (hKc : KCl G ad k ic md kn fl gop gx gy rf rto ron rat rbe rtd rm fv E) (hV : ∀ z, z < k → RZv ic rf rto ron rat rbe rtd rm fv z) (hOd : OdC G ad k ic md (TTz ic md rf rto ron rat rbe rtd rm fv kn.toInt) E) (x : Int32) (y : Int32) : CtI l G yX8_odds cX8_odds 3 .int 5 124 (98 + 9 * k) ad E [.ref (ad 0), .int x, .int y] (fun r E' => ODp k (TTz ic md rf rto ron rat rbe rtd rm fv kn.toInt) (YSf md (ic 4).toInt (ic 5).toInt 100) x.toInt y.toInt r.toInt ∧ SOd G ad k ic md rf rto ron rat rbe rtd rm fv kn.toInt E E') := by
  refine CtI.of (by decide) (Nat.le_of_ble_eq_true rfl) (fun X A C => ?_)
  refine v_sub (lv' := [(0, .ref (ad 0)), (1, .int x), (2, .int y)]) [0, 1, 2] rfl ?_
  obtain ⟨⟨io, h0, hio⟩, hC, ⟨iz, fz, h6, hzk, h7, hfz⟩, ⟨fp, h8, hfp⟩, hPg, hbl, ⟨i48, h48⟩, ⟨i49, h49⟩, ⟨pv, h50⟩, hZ, hk5⟩ := id hKc
  have hP : CalP ic md := by obtain ⟨ms, ld, ys, -, -, -, -, -, hP, -⟩ := hC; exact hP
  obtain ⟨iq, ls, mk, h45, h46, h47, hq2, h5b, hOI⟩ := id hOd
  refine v_iload_n C 1 dX8_odds_0 rfl rfl ?_
  refine v_iload_n C 2 dX8_odds_1 rfl rfl ?_
  refine v_cSp C dX8_odds_2 lX8_230 mX8_isRange (g_isRange l G _ ad _ x y) ⟨by decide, by decide⟩ rfl (Nat.le_of_ble_eq_true rfl) ⟨Nat.zero_le _, Nat.zero_le _⟩ (fun r1 hp2 => ?_)
  rcases hp2 with ⟨rfl, hab⟩ | ⟨rfl, hab⟩
  · refine b_if_ne C 10 dX8_odds_5 (by decide) (show (1 : Int32).toInt = 1 by decide) (fun c3 => ?_) (fun c3 => absurd c3 (by decide))
    refine v_aload_n C 0 dX8_odds_10 rfl rfl ?_
    refine v_iload_n C 1 dX8_odds_11 rfl rfl ?_
    refine v_iload_n C 2 dX8_odds_12 rfl rfl ?_
    refine v_cVv C dX8_odds_13 lX8_233 mX8_gatherOdds 0 (by omega) h0 (by decide) rfl (k_gatherOdds l G 0 ad _ hKc hV hOd x y hab) ⟨by decide, by decide⟩ rfl (Nat.le_of_ble_eq_true rfl) ⟨Nat.zero_le _, Nat.zero_le _⟩ (fun E4 hq5 => ?_)
    obtain ⟨hgo, hKg, hZg, hOg⟩ := hq5
    obtain ⟨iq2, ls2, n0, q45, q47, ⟨mk2, q46⟩, q5, q3, q4, q2, qn, qe⟩ := id hgo
    have rE4_0 := (hOg 0 (by omega) (by omega) (by omega) (by omega)).trans h0
    refine v_aload_n C 0 dX8_odds_16 rfl rfl ?_
    refine v_getr C 0 dX8_odds_17 fX8_33 (by omega) rE4_0 rfl rfl ?_
    refine v_geti (v := iq2 2) C 45 dX8_odds_20 fX8_237 (by omega) q45 rfl rfl ?_
    exact v_ret C dX8_odds_23 rfl rfl ⟨Or.inr ⟨hab, n0, _, qe, q2⟩, ⟨hOg, hZg, hgo.odc hab⟩⟩
  · refine b_if_ne C 10 dX8_odds_5 (by decide) (show (0 : Int32).toInt = 0 by decide) (fun c6 => absurd c6 (by decide)) (fun c6 => ?_)
    refine v_iconst (v := (-1)) C dX8_odds_8 (by decide) ?_
    exact v_ret C dX8_odds_9 rfl rfl ⟨Or.inl ⟨hab, by decide⟩, ⟨fun _ _ _ _ _ => rfl, hZ, hOd⟩⟩

set_option maxRecDepth 20000 in
theorem k_odd (l : Launch) (G : Gl) (n : Nat) (ad : Nat → Nat) (E : Nat → va_E) {k : Nat} {ic md fl gop gx gy rf rto ron rat rbe rtd rm fv : Nat → Int32} {kn : Int32} (hKc : KCl G ad k ic md kn fl gop gx gy rf rto ron rat rbe rtd rm fv E) (hV : ∀ z, z < k → RZv ic rf rto ron rat rbe rtd rm fv z) (hOd : OdC G ad k ic md (TTz ic md rf rto ron rat rbe rtd rm fv kn.toInt) E) (x : Int32) (y : Int32) (i : Int32) : CtI l G yX8_odd cX8_odd 4 .int 5 124 (98 + 9 * k) ad E [.ref (ad 0), .int x, .int y, .int i] (fun r E' => OIq k (TTz ic md rf rto ron rat rbe rtd rm fv kn.toInt) (YSf md (ic 4).toInt (ic 5).toInt 100) x.toInt y.toInt i.toInt r.toInt ∧ SOd G ad k ic md rf rto ron rat rbe rtd rm fv kn.toInt E E') := by
  refine CtI.of (by decide) (Nat.le_of_ble_eq_true rfl) (fun X A C => ?_)
  refine v_sub (lv' := [(0, .ref (ad 0)), (1, .int x), (2, .int y), (3, .int i)]) [0, 1, 2, 3] rfl ?_
  obtain ⟨⟨io, h0, hio⟩, hC, ⟨iz, fz, h6, hzk, h7, hfz⟩, ⟨fp, h8, hfp⟩, hPg, hbl, ⟨i48, h48⟩, ⟨i49, h49⟩, ⟨pv, h50⟩, hZ, hk5⟩ := id hKc
  have hP : CalP ic md := by obtain ⟨ms, ld, ys, -, -, -, -, -, hP, -⟩ := hC; exact hP
  obtain ⟨iq, ls, mk, h45, h46, h47, hq2, h5b, hOI⟩ := id hOd
  refine v_iload_n C 3 dX8_odd_0 rfl rfl ?_
  refine b_if_lt C 12 dX8_odd_1 (by decide) (rfl : Int32.toInt i = _) (fun c1 => ?_) (fun c1 => ?_)
  · refine v_iconst (v := (-1)) C dX8_odd_12 (by decide) ?_
    exact v_ret C dX8_odd_13 rfl rfl ⟨Or.inl ⟨by omega, by decide⟩, ⟨fun _ _ _ _ _ => rfl, hZ, hOd⟩⟩
  · refine v_iload_n C 1 dX8_odd_4 rfl rfl ?_
    refine v_iload_n C 2 dX8_odd_5 rfl rfl ?_
    refine v_cSp C dX8_odd_6 lX8_230 mX8_isRange (g_isRange l G _ ad _ x y) ⟨by decide, by decide⟩ rfl (Nat.le_of_ble_eq_true rfl) ⟨Nat.zero_le _, Nat.zero_le _⟩ (fun r2 hp3 => ?_)
    rcases hp3 with ⟨rfl, hab⟩ | ⟨rfl, hab⟩
    · refine b_if_ne C 14 dX8_odd_9 (by decide) (show (1 : Int32).toInt = 1 by decide) (fun c4 => ?_) (fun c4 => absurd c4 (by decide))
      refine v_aload_n C 0 dX8_odd_14 rfl rfl ?_
      refine v_iload_n C 1 dX8_odd_15 rfl rfl ?_
      refine v_iload_n C 2 dX8_odd_16 rfl rfl ?_
      refine v_cVv C dX8_odd_17 lX8_233 mX8_gatherOdds 0 (by omega) h0 (by decide) rfl (k_gatherOdds l G 0 ad _ hKc hV hOd x y hab) ⟨by decide, by decide⟩ rfl (Nat.le_of_ble_eq_true rfl) ⟨Nat.zero_le _, Nat.zero_le _⟩ (fun E5 hq6 => ?_)
      obtain ⟨hgo, hKg, hZg, hOg⟩ := hq6
      obtain ⟨iq2, ls2, n0, q45, q47, ⟨mk2, q46⟩, q5, q3, q4, q2, qn, qe⟩ := id hgo
      have rE5_0 := (hOg 0 (by omega) (by omega) (by omega) (by omega)).trans h0
      refine v_iload_n C 3 dX8_odd_20 rfl rfl ?_
      refine v_aload_n C 0 dX8_odd_21 rfl rfl ?_
      refine v_getr C 0 dX8_odd_22 fX8_33 (by omega) rE5_0 rfl rfl ?_
      refine v_geti (v := iq2 2) C 45 dX8_odd_25 fX8_237 (by omega) q45 rfl rfl ?_
      refine b_icmp_ge C 43 dX8_odd_28 (by decide) (rfl : Int32.toInt i = _) q2 (fun c7 => ?_) (fun c7 => ?_)
      · refine v_iconst (v := (-1)) C dX8_odd_43 (by decide) ?_
        exact v_ret C dX8_odd_44 rfl rfl ⟨Or.inr (Or.inr ⟨hab, n0, _, qe, Or.inr ⟨by omega, by decide⟩⟩), ⟨hOg, hZg, hgo.odc hab⟩⟩
      · refine v_aload_n C 0 dX8_odd_31 rfl rfl ?_
        refine v_getr C 0 dX8_odd_32 fX8_33 (by omega) rE5_0 rfl rfl ?_
        refine v_getr C 45 dX8_odd_35 fX8_240 (by omega) q45 rfl rfl ?_
        refine v_iload_n C 3 dX8_odd_38 rfl rfl ?_
        refine v_ald (v := ls2 i.toInt.toNat) C 47 dX8_odd_39 (by omega) q47 (ti_in (rfl : Int32.toInt i = _) (by omega) (by omega)) (by rw [ti_cl (rfl : Int32.toInt i = _), show Int.toNat i.toInt = i.toInt.toNat by omega]) ?_
        refine v_goto C 44 dX8_odd_40 (by decide) ?_
        exact v_ret C dX8_odd_44 rfl rfl ⟨Or.inr (Or.inr ⟨hab, n0, _, qe, Or.inl ⟨by omega, by omega, rfl⟩⟩), ⟨hOg, hZg, hgo.odc hab⟩⟩
    · refine b_if_ne C 14 dX8_odd_9 (by decide) (show (0 : Int32).toInt = 0 by decide) (fun c8 => absurd c8 (by decide)) (fun c8 => ?_)
      refine v_iconst (v := (-1)) C dX8_odd_12 (by decide) ?_
      exact v_ret C dX8_odd_13 rfl rfl ⟨Or.inr (Or.inl ⟨hab, by decide⟩), ⟨fun _ _ _ _ _ => rfl, hZ, hOd⟩⟩

