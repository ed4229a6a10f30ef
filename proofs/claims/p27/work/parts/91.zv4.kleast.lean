set_option maxRecDepth 20000 in
theorem g_firstBroken (l : Launch) (G : Gl) (n : Nat) (ad : Nat → Nat) (E : Nat → va_E) {k : Nat} {ic md : Nat → Int32} {TT : Nat → TST} (hK : KSt G ad k ic md TT E) (b : Nat) (hb : b + 6 ≤ 45) {sz : Int32} {fo fx fy : Nat → Int32} (hPg : PgX G ad b E sz fo fx fy) (hs1 : 0 ≤ sz.toInt) (hs2 : sz.toInt ≤ 10) {N : Nat} (hN : sz.toInt = (N : Int)) {Kw : Nat → Int32} (hwh : RSf fo N = some (1, Kw)) (hLn : ∀ j, j < N → okLn (k : Int) (fo j).toInt (fx j).toInt (fy j).toInt) {pv : Nat → Int32} (h50 : E 50 = aI G 8 pv) {i48 : Nat → Int32} (h48 : E 48 = ob 1 (rfs ad [1, 6, 49, 45]) i48) {law v : Int} (hlw : okLW (k : Int) law v) (hl4 : (i48 4).toInt = law % 10) (hl5 : (i48 5).toInt = law / 10) (hl6 : (i48 6).toInt = v) {iq ls : Nat → Int32} (h45 : E 45 = ob 4 (rfs ad [46, 47]) iq) {n0 : Nat} (hq2 : (iq 2).toInt = (n0 : Int)) (hn0 : n0 ≤ 26002) (h47 : E 47 = aI G 26002 ls) (hrg : ∀ q, q < n0 → 0 ≤ (ls q).toInt ∧ (ls q).toInt < 60000000) : CtI l G yX1_firstBroken cX1_firstBroken 4 .int 5 124 (98 + 9 * k) ad E [.ref (ad 48), .ref (ad b)] (fun r E' => FBp (KPt ic md TT fo fx fy N law v) n0 (fun q => (ls q).toInt) (-1) r.toInt ∧ (∃ pv2 : Nat → Int32, E' 50 = aI G 8 pv2) ∧ ∀ j, j ≠ 50 → E' j = E j) := by
  refine CtI.of (by decide) (Nat.le_of_ble_eq_true rfl) (fun X A C => ?_)
  refine v_sub (lv' := [(0, .ref (ad 48)), (1, .ref (ad b))]) [0, 1] rfl ?_
  obtain ⟨⟨i49, h49⟩, hC, ⟨iz, fz, h6, hzk, h7, hfz⟩, hZY, hk5⟩ := id hK
  obtain ⟨ms, ld, ys, hC1, hC2, hC3, hC4, hC5, hP, hF⟩ := id hC
  have hcy := cal_y hP
  obtain ⟨ip, po, px, py, tp, kd, hEb, hsz, -, -, -, -, -, -, -, -, hro, hft⟩ := id hPg
  have hNt : sz.toInt.toNat = N := by omega
  rw [hNt] at hro hft
  refine v_iconst (v := 0) C dX1_firstBroken_0 (by decide) ?_
  refine v_istore_n (lv' := [(0, .ref (ad 48)), (1, .ref (ad b)), (2, .int 0)]) C [1, 2, 0] dX1_firstBroken_1 rfl (by decide) rfl ?_
  have LP1 : ∀ (t : Nat) (i1 : Nat) (y2 : Int32) (E3 : Nat → va_E) (pv1 : Nat → Int32), (y2.toInt = (i1 : Int)) → (E3 50 = aI G 8 pv1) → (∀ j, j ≠ 50 → E3 j = E j) → (i1 ≤ n0) → (∀ j, j < i1 → KPt ic md TT fo fx fy N law v (ls j).toInt) → (n0 : Int) - (i1 : Int) < (t : Int) → V X G A 4 (QI X G A (98 + 9 * k) ad (fun r E' => FBp (KPt ic md TT fo fx fy N law v) n0 (fun q => (ls q).toInt) (-1) r.toInt ∧ (∃ pv2 : Nat → Int32, E' 50 = aI G 8 pv2) ∧ ∀ j, j ≠ 50 → E' j = E j)) (98 + 9 * k) ad 0 0 E3 2 [(0, .ref (ad 48)), (1, .ref (ad b)), (2, .int y2)] [] := by
    intro t6
    induction t6 with
    | zero => intro i1 y2 E3 pv1 hy2 hE3_50 hfr4 hq5 hall hm8; exfalso; omega
    | succ t6 ih7 =>
      intro i1 y2 E3 pv1 hy2 hE3_50 hfr4 hq5 hall hm8
      have hE3_48 := (hfr4 48 (by decide)).trans h48
      have hE3_45 := (hfr4 45 (by decide)).trans h45
      have hE3_47 := (hfr4 47 (by decide)).trans h47
      have hE3_49 := (hfr4 49 (by decide)).trans h49
      have hE3_b := (hfr4 b (by omega)).trans hEb
      have hK1 := hK.go (fun j hj => hfr4 j (by omega))
      have hPg1 := hPg.keep (fun j h1 h2 => hfr4 j (by omega))
      refine v_iload_n C 2 dX1_firstBroken_2 rfl rfl ?_
      refine v_aload_n C 0 dX1_firstBroken_3 rfl rfl ?_
      refine v_getr C 48 dX1_firstBroken_4 fX1_19 (by omega) hE3_48 rfl rfl ?_
      refine v_geti (v := iq 2) C 45 dX1_firstBroken_7 fX1_74 (by omega) hE3_45 rfl rfl ?_
      refine b_icmp_ge C 52 dX1_firstBroken_10 (by decide) hy2 hq2 (fun c9 => ?_) (fun c9 => ?_)
      · refine v_iconst (v := (-1)) C dX1_firstBroken_52 (by decide) ?_
        exact v_ret C dX1_firstBroken_53 rfl rfl ⟨Or.inl ⟨fun q hq => hall q (by omega), by decide⟩, ⟨⟨_, hE3_50⟩, fun j hj => (hfr4 j hj)⟩⟩
      · refine v_aload_n C 0 dX1_firstBroken_13 rfl rfl ?_
        refine v_getr C 48 dX1_firstBroken_14 fX1_19 (by omega) hE3_48 rfl rfl ?_
        refine v_getr C 45 dX1_firstBroken_17 fX1_79 (by omega) hE3_45 rfl rfl ?_
        refine v_iload_n C 2 dX1_firstBroken_20 rfl rfl ?_
        refine v_ald (v := ls i1) C 47 dX1_firstBroken_21 (by omega) hE3_47 (ti_in hy2 (by omega) (by omega)) (by rw [ti_cl hy2, show Int.toNat (i1 : Int) = i1 by omega]) ?_
        have hm := hrg i1 (by omega)
        refine v_istore_n (lv' := [(0, .ref (ad 48)), (1, .ref (ad b)), (2, .int y2), (3, .int (ls i1))]) C [1, 2, 3, 0] dX1_firstBroken_22 rfl (by decide) rfl ?_
        refine v_aload_n C 0 dX1_firstBroken_23 rfl rfl ?_
        refine v_aload_n C 1 dX1_firstBroken_24 rfl rfl ?_
        refine v_geti (v := ip 8) C b dX1_firstBroken_25 fX1_83 (by omega) hE3_b rfl rfl ?_
        refine v_aload_n C 0 dX1_firstBroken_28 rfl rfl ?_
        refine v_getr C 48 dX1_firstBroken_29 fX1_28 (by omega) hE3_48 rfl rfl ?_
        refine v_aload_n C 1 dX1_firstBroken_32 rfl rfl ?_
        refine v_iload_n C 3 dX1_firstBroken_33 rfl rfl ?_
        refine v_cVi C dX1_firstBroken_34 lX1_88 mX2_answerOf 49 (by omega) hE3_49 (by decide) rfl (g_answerOf l G 0 ad _ hK1 b hb hPg1 hs1 hs2 hN hwh hLn hE3_50 (ls i1) hm) ⟨by decide, by decide⟩ rfl (Nat.le_of_ble_eq_true rfl) ⟨Nat.zero_le _, Nat.zero_le _⟩ (fun r10 E11 hq12 => ?_)
        obtain ⟨hrv, ⟨pv2, h50b⟩, hO2⟩ := hq12
        have rE11_48 := (hO2 48 (by omega)).trans hE3_48
        have rE11_45 := (hO2 45 (by omega)).trans hE3_45
        have rE11_47 := (hO2 47 (by omega)).trans hE3_47
        have rE11_49 := (hO2 49 (by omega)).trans hE3_49
        have rE11_b := (hO2 b (by omega)).trans hE3_b
        have hK2 := hK1.go (fun j hj => hO2 j (by omega))
        refine v_iload_n C 3 dX1_firstBroken_37 rfl rfl ?_
        have hKd : (ip 8).toInt = KDr fo N := by rw [hft.2.1 Kw hwh, KD_of hwh]
        have hK0 := (RS_ok N _ hwh).2 0 (show ((0 : Nat) : Int) < 1 by decide)
        dsimp only at hK0
        have hK8 : (ip 8).toInt = (Kw 0).toInt := by rw [hft.2.1 Kw hwh]
        have hwi := RU_bd (ic := ic) (md := md) (TT := TT) (fx := fx) (fy := fy) hm hro hwh
        rw [← hrv, ← hK8] at hwi
        refine v_cVp C dX1_firstBroken_38 lX1_92 mX1_holds 48 (by omega) rE11_48 (by decide) rfl (g_holds l G 0 ad _ hK2 rE11_48 (zz := (law / 10).toNat) (by unfold okLW at hlw; omega) (fun q => by unfold okLW at hlw; omega) (ip 8) r10 (ls i1) hwi (by omega) hm) ⟨by decide, by decide⟩ rfl (Nat.le_of_ble_eq_true rfl) ⟨Nat.zero_le _, Nat.zero_le _⟩ (fun r13 hp14 => ?_)
        rw [hl4, hl6, hKd, hrv] at hp14
        rcases hp14 with ⟨rfl, hkp⟩ | ⟨rfl, hkp⟩
        · refine b_if_ne C 46 dX1_firstBroken_41 (by decide) (show (1 : Int32).toInt = 1 by decide) (fun c15 => ?_) (fun c15 => absurd c15 (by decide))
          obtain ⟨x16, ex16⟩ : ∃ y : Int32, y = y2 + 1 := ⟨_, rfl⟩
          have hx16 : x16.toInt = ((i1 : Int) + 1) := by rw [ex16]; exact ti_add hy2 (show (1 : Int32).toInt = 1 by decide) (by omega) (by omega)
          refine v_iinc (v := x16) (lv' := [(0, .ref (ad 48)), (1, .ref (ad b)), (2, .int x16), (3, .int (ls i1))]) C 2 [1, 2, 0, 3] dX1_firstBroken_46 rfl (ex16.symm) (by decide) rfl ?_
          refine v_goto C 2 dX1_firstBroken_49 (by decide) ?_
          refine v_sub (lv' := [(0, .ref (ad 48)), (1, .ref (ad b)), (2, .int x16)]) [0, 1, 2] rfl ?_
          exact ih7 (i1 + 1) x16 E11 pv2 (show Int32.toInt x16 = ((i1 + 1 : Nat) : Int) by have := hx16; omega) h50b (fun j g0 => ((hO2 j g0).trans (hfr4 j g0))) (by omega) (fun j hj => by by_cases q : j = i1; (subst q; exact hkp); exact hall j (by omega)) (by omega)
        · refine b_if_ne C 46 dX1_firstBroken_41 (by decide) (show (0 : Int32).toInt = 0 by decide) (fun c17 => absurd c17 (by decide)) (fun c17 => ?_)
          refine v_iload_n C 3 dX1_firstBroken_44 rfl rfl ?_
          exact v_ret C dX1_firstBroken_45 rfl rfl ⟨Or.inr ⟨i1, by omega, hall, hkp, rfl⟩, ⟨⟨_, h50b⟩, fun j hj => ((hO2 j hj).trans (hfr4 j hj))⟩⟩
  exact LP1 100000 0 0 E pv (show Int32.toInt 0 = ((0 : Nat) : Int) by have := (show (0 : Int32).toInt = 0 by decide); omega) h50 (fun j _ => rfl) (by omega) (fun j hj => absurd hj (by omega)) (by omega)

set_option maxRecDepth 20000 in
theorem k_least (l : Launch) (G : Gl) (n : Nat) (ad : Nat → Nat) (E : Nat → va_E) {k : Nat} {ic md fl gop gx gy rf rto ron rat rbe rtd rm fv : Nat → Int32} {kn : Int32} (hKc : KCl G ad k ic md kn fl gop gx gy rf rto ron rat rbe rtd rm fv E) (hV : ∀ z, z < k → RZv ic rf rto ron rat rbe rtd rm fv z) (hLN : LOK k fl gop gx gy) (hOd : OdC G ad k ic md (TTz ic md rf rto ron rat rbe rtd rm fv kn.toInt) E) (p : Int32) (x : Int32) (v : Int32) (a : Int32) (c : Int32) : CtI l G yX8_least cX8_least 8 .int 6 147 (98 + 9 * k) ad E [.ref (ad 0), .int p, .int x, .int v, .int a, .int c] (fun r E' => LEp k ic md (TTz ic md rf rto ron rat rbe rtd rm fv kn.toInt) (YSf md (ic 4).toInt (ic 5).toInt 100) fl gop gx gy p.toInt x.toInt v.toInt a.toInt c.toInt r.toInt) := by
  refine CtI.of (by decide) (Nat.le_of_ble_eq_true rfl) (fun X A C => ?_)
  refine v_sub (lv' := [(0, .ref (ad 0)), (1, .int p), (2, .int x), (3, .int v), (4, .int a), (5, .int c)]) [0, 1, 2, 3, 4, 5] rfl ?_
  obtain ⟨⟨io, h0, hio⟩, hC, ⟨iz, fz, h6, hzk, h7, hfz⟩, ⟨fp, h8, hfp⟩, hPg, hbl, ⟨i48, h48⟩, ⟨i49, h49⟩, ⟨pv, h50⟩, hZ, hk5⟩ := id hKc
  have hP : CalP ic md := by obtain ⟨ms, ld, ys, -, -, -, -, -, hP, -⟩ := hC; exact hP
  obtain ⟨iq, ls, mk, h45, h46, h47, hq2, h5b, hOI⟩ := id hOd
  refine v_aload_n C 0 dX8_least_0 rfl rfl ?_
  refine v_iload_n C 1 dX8_least_1 rfl rfl ?_
  refine v_cVr C dX8_least_2 lX8_177 mX8_programAt 0 (by omega) h0 (by decide) rfl (g_programAt l G _ ad _ (by omega) h0 h8 hfp p) ⟨by decide, by decide⟩ rfl (Nat.le_of_ble_eq_true rfl) ⟨Nat.zero_le _, Nat.zero_le _⟩ (fun r1 hp2 => ?_)
  rcases hp2 with ⟨hno, rfl⟩ | ⟨i, hi, hpi, rfl⟩
  · refine v_astoreN (lv' := [(0, .ref (ad 0)), (1, .int p), (2, .int x), (3, .int v), (4, .int a), (5, .int c), (6, .null)]) C [1, 2, 3, 4, 5, 6, 0] dX8_least_5 (by decide) rfl ?_
    refine v_aloadN C 6 dX8_least_7 rfl ?_
    refine v_ifnullN C 33 dX8_least_9 (by decide) ?_
    refine v_iconst (v := (-1)) C dX8_least_33 (by decide) ?_
    exact v_ret C dX8_least_34 rfl rfl (Or.inl ⟨(fun q => by obtain ⟨q1, q2, q3⟩ := q; first | exact absurd q2 hlw | exact absurd q3 hrw | omega), by decide⟩)
  · have hit : p.toInt.toNat = i := by omega
    have hbi := hbl i
    obtain ⟨N, hN⟩ : ∃ N : Nat, (fl i).toInt = (N : Int) := ⟨(fl i).toInt.toNat, by omega⟩
    have hNt : (fl i).toInt.toNat = N := by omega
    obtain ⟨ip, po, px, py, tp, kd, hEb, hsz, -, -, -, -, -, -, -, -, hro, hft⟩ := id (hPg i hi)
    rw [hNt] at hro hft
    have hmis : (ip 7).toInt = MIS (fP gop i) N := hft.1
    refine v_astore (lv' := [(0, .ref (ad 0)), (1, .int p), (2, .int x), (3, .int v), (4, .int a), (5, .int c), (6, .ref (ad (9 + 6 * i)))]) C [1, 2, 3, 4, 5, 6, 0] dX8_least_5 (by decide) rfl ?_
    refine v_aload C 6 dX8_least_7 rfl ?_
    refine v_ifnull C dX8_least_9 ?_
    refine v_aload_n C 0 dX8_least_12 rfl rfl ?_
    refine v_iload_n C 2 dX8_least_13 rfl rfl ?_
    refine v_iload_n C 3 dX8_least_14 rfl rfl ?_
    refine v_cVp C dX8_least_15 lX8_219 mX8_isLaw 0 (by omega) h0 (by decide) rfl (g_isLaw l G _ ad _ (by omega) h0 h6 hzk x v) ⟨by decide, by decide⟩ rfl (Nat.le_of_ble_eq_true rfl) ⟨Nat.zero_le _, Nat.zero_le _⟩ (fun r3 hp4 => ?_)
    rcases hp4 with ⟨rfl, hlw⟩ | ⟨rfl, hlw⟩
    · refine b_if_eq C 33 dX8_least_18 (by decide) (show (1 : Int32).toInt = 1 by decide) (fun c5 => absurd c5 (by decide)) (fun c5 => ?_)
      refine v_iload C 4 dX8_least_21 rfl ?_
      refine v_iload C 5 dX8_least_23 rfl ?_
      refine v_ldc C dX8_least_25 kX8_243 ?_
      refine v_cSp C dX8_least_27 lX8_244 mX8_isReach (g_isReach l G _ ad _ a c 2000000 (by decide)) ⟨by decide, by decide⟩ rfl (Nat.le_of_ble_eq_true rfl) ⟨Nat.zero_le _, Nat.zero_le _⟩ (fun r6 hp7 => ?_)
      rw [show (2000000 : Int32).toInt = 2000000 by decide] at hp7
      rcases hp7 with ⟨rfl, hrw⟩ | ⟨rfl, hrw⟩
      · have hrx := hrw
        unfold okRow at hrx
        refine b_if_ne C 35 dX8_least_30 (by decide) (show (1 : Int32).toInt = 1 by decide) (fun c8 => ?_) (fun c8 => absurd c8 (by decide))
        refine v_aload C 6 dX8_least_35 rfl ?_
        refine v_geti (v := ip 7) C (9 + 6 * i) dX8_least_37 fX8_198 (by omega) hEb rfl rfl ?_
        refine v_iconst (v := (-1)) C dX8_least_40 (by decide) ?_
        refine b_icmp_eq C 47 dX8_least_41 (by decide) hmis (show ((-1) : Int32).toInt = (-1) by decide) (fun c9 => ?_) (fun c9 => ?_)
        · refine v_aload_n C 0 dX8_least_47 rfl rfl ?_
          refine v_iload C 4 dX8_least_48 rfl ?_
          refine v_iload C 4 dX8_least_50 rfl ?_
          refine v_iload C 5 dX8_least_52 rfl ?_
          refine v_iadd C dX8_least_54 ?_
          refine v_top (fun x10 ex10 => ?_)
          have hx10 : x10.toInt = (a.toInt + c.toInt) := by rw [ex10]; exact ti_add (rfl : Int32.toInt a = _) (rfl : Int32.toInt c = _) (by omega) (by omega)
          have hxe := hx10
          have hab : okOD a.toInt x10.toInt := by unfold okOD; omega
          refine v_cVv C dX8_least_55 lX8_233 mX8_gatherOdds 0 (by omega) h0 (by decide) rfl (k_gatherOdds l G 0 ad _ hKc hV hOd a x10 hab) ⟨by decide, by decide⟩ rfl (Nat.le_of_ble_eq_true rfl) ⟨Nat.zero_le _, Nat.zero_le _⟩ (fun E11 hq12 => ?_)
          obtain ⟨hgo, hKg, hZg, hOg⟩ := hq12
          obtain ⟨iq2, ls2, n0, q45, q47, ⟨mk2, q46⟩, q5, q3, q4, q2, qn, qe⟩ := id hgo
          have hrg : ∀ q, q < n0 → 0 ≤ (ls2 q).toInt ∧ (ls2 q).toInt < 60000000 := fun q hq => by have g : a.toInt ≤ (ls2 q).toInt ∧ (ls2 q).toInt ≤ x10.toInt := (qe.2.1 q hq).1; have h9 := hab; unfold okOD at h9; omega
          rw [hxe] at qe
          have rE11_0 := (hOg 0 (by omega) (by omega) (by omega) (by omega)).trans h0
          have rE11_6 := (hOg 6 (by omega) (by omega) (by omega) (by omega)).trans h6
          have rE11_7 := (hOg 7 (by omega) (by omega) (by omega) (by omega)).trans h7
          have rE11_8 := (hOg 8 (by omega) (by omega) (by omega) (by omega)).trans h8
          have rE11_48 := (hOg 48 (by omega) (by omega) (by omega) (by omega)).trans h48
          have rE11_49 := (hOg 49 (by omega) (by omega) (by omega) (by omega)).trans h49
          have rE11_96i := (hOg (9 + 6 * i) (by omega) (by omega) (by omega) (by omega)).trans hEb
          have h50a := (hOg 50 (by decide) (by decide) (by decide) (by decide)).trans h50
          have hPg1 := (hPg i hi).keep (fun j _ g => hOg j (by omega) (by omega) (by omega) (by omega))
          obtain ⟨Kw, hwh⟩ := MIS_whole (ops := fP gop i) (n := N) (by omega)
          have hLi : ∀ j, j < N → okLn (k : Int) (fP gop i j).toInt (fP gx i j).toInt (fP gy i j).toInt := fun j hj => hLN i hi j (by omega)
          refine v_aload_n C 0 dX8_least_58 rfl rfl ?_
          refine v_getr C 0 dX8_least_59 fX8_42 (by omega) rE11_0 rfl rfl ?_
          have hlx := hlw.1
          refine v_iload_n C 2 dX8_least_62 rfl rfl ?_
          refine v_bipush (v := 10) C dX8_least_63 (by decide) ?_
          refine v_irem C dX8_least_65 (by decide) ?_
          refine v_top (fun x13 ex13 => ?_)
          have hx13 : x13.toInt = (x.toInt % 10) := by rw [ex13]; exact ti_rem (rfl : Int32.toInt x = _) (show (10 : Int32).toInt = 10 by decide) (by omega) (by omega)
          refine v_iload_n C 2 dX8_least_66 rfl rfl ?_
          refine v_bipush (v := 10) C dX8_least_67 (by decide) ?_
          refine v_idiv C dX8_least_69 (by decide) ?_
          refine v_top (fun x14 ex14 => ?_)
          have hx14 : x14.toInt = (x.toInt / 10) := by rw [ex14]; exact ti_div (rfl : Int32.toInt x = _) (show (10 : Int32).toInt = 10 by decide) (by omega) (by omega)
          refine v_iload_n C 3 dX8_least_70 rfl rfl ?_
          refine v_cVv C dX8_least_71 lX8_223 mX1_hear 48 (by omega) rE11_48 (by decide) rfl (g_hear l G _ ad _ (by omega) rE11_48 x13 x14 v) ⟨by decide, by decide⟩ rfl (Nat.le_of_ble_eq_true rfl) ⟨Nat.zero_le _, Nat.zero_le _⟩ (fun E15 hq16 => ?_)
          obtain ⟨j48, h48b, hj4, hj5, hj6, hO3⟩ := hq16
          have rE15_0 := (hO3 0 (by omega)).trans rE11_0
          have rE15_6 := (hO3 6 (by omega)).trans rE11_6
          have rE15_7 := (hO3 7 (by omega)).trans rE11_7
          have rE15_8 := (hO3 8 (by omega)).trans rE11_8
          have rE15_49 := (hO3 49 (by omega)).trans rE11_49
          have rE15_96i := (hO3 (9 + 6 * i) (by omega)).trans rE11_96i
          have rE15_45 := (hO3 45 (by omega)).trans q45
          have rE15_47 := (hO3 47 (by omega)).trans q47
          have hKb := hKg.go (fun j hj => hO3 j (by omega))
          have h50c := (hO3 50 (by decide)).trans h50a
          have hPg2 := hPg1.keep (fun j _ g => hO3 j (by omega))
          have hl4 : (j48 4).toInt = x.toInt % 10 := by rw [hj4]; exact hx13
          have hl5 : (j48 5).toInt = x.toInt / 10 := by rw [hj5]; exact hx14
          have hl6 : (j48 6).toInt = v.toInt := by rw [hj6]
          refine v_aload_n C 0 dX8_least_74 rfl rfl ?_
          refine v_getr C 0 dX8_least_75 fX8_42 (by omega) rE15_0 rfl rfl ?_
          refine v_aload C 6 dX8_least_78 rfl ?_
          refine v_cVi C dX8_least_80 lX8_247 mX1_firstBroken 48 (by omega) h48b (by decide) rfl (g_firstBroken l G 0 ad _ hKb (9 + 6 * i) (by omega) hPg2 hbi.1 hbi.2 hN hwh hLi h50c h48b hlw hl4 hl5 hl6 rE15_45 q2 qn rE15_47 hrg) ⟨by decide, by decide⟩ rfl (Nat.le_of_ble_eq_true rfl) ⟨Nat.zero_le _, Nat.zero_le _⟩ (fun r17 E18 hq19 => ?_)
          rcases hq19 with ⟨⟨hall, hrv⟩ | ⟨i9, hi9, hbe, hnk, hrv⟩, -, -⟩
          · obtain rfl : r17 = -1 := ti_ext (hrv.trans (by decide))
            refine v_istore (lv' := [(0, .ref (ad 0)), (1, .int p), (2, .int x), (3, .int v), (4, .int a), (5, .int c), (6, .ref (ad (9 + 6 * i))), (7, .int (-1))]) C [1, 2, 3, 4, 5, 6, 7, 0] dX8_least_83 (by decide) rfl ?_
            refine v_iload C 7 dX8_least_85 rfl ?_
            refine v_iconst (v := (-1)) C dX8_least_87 (by decide) ?_
            refine b_icmp_ne C 96 dX8_least_88 (by decide) (show ((-1) : Int32).toInt = (-1) by decide) (show ((-1) : Int32).toInt = (-1) by decide) (fun c20 => by exfalso; omega) (fun c20 => ?_)
            refine v_bipush (v := (-6)) C dX8_least_91 (by decide) ?_
            refine v_goto C 98 dX8_least_93 (by decide) ?_
            exact v_ret C dX8_least_98 rfl rfl (Or.inr (Or.inr ⟨⟨by omega, hlw, hrw⟩, (by rw [hit, hNt]; omega), n0, _, qe, (by rw [hit, hNt]; exact Or.inl ⟨hall, by decide⟩)⟩))
          · have hr9 : 0 ≤ r17.toInt := by have := hrg i9 hi9; dsimp only at hrv; omega
            refine v_istore (lv' := [(0, .ref (ad 0)), (1, .int p), (2, .int x), (3, .int v), (4, .int a), (5, .int c), (6, .ref (ad (9 + 6 * i))), (7, .int r17)]) C [1, 2, 3, 4, 5, 6, 7, 0] dX8_least_83 (by decide) rfl ?_
            refine v_iload C 7 dX8_least_85 rfl ?_
            refine v_iconst (v := (-1)) C dX8_least_87 (by decide) ?_
            refine b_icmp_ne C 96 dX8_least_88 (by decide) (rfl : Int32.toInt r17 = _) (show ((-1) : Int32).toInt = (-1) by decide) (fun c21 => ?_) (fun c21 => by exfalso; omega)
            refine v_iload C 7 dX8_least_96 rfl ?_
            exact v_ret C dX8_least_98 rfl rfl (Or.inr (Or.inr ⟨⟨by omega, hlw, hrw⟩, (by rw [hit, hNt]; omega), n0, _, qe, (by rw [hit, hNt]; exact Or.inr ⟨i9, hi9, hbe, hnk, hrv⟩)⟩))
        · refine v_bipush (v := (-4)) C dX8_least_44 (by decide) ?_
          exact v_ret C dX8_least_46 rfl rfl (Or.inr (Or.inl ⟨⟨by omega, hlw, hrw⟩, (by rw [hit, hNt]; omega), by decide⟩))
      · refine b_if_ne C 35 dX8_least_30 (by decide) (show (0 : Int32).toInt = 0 by decide) (fun c22 => absurd c22 (by decide)) (fun c22 => ?_)
        refine v_iconst (v := (-1)) C dX8_least_33 (by decide) ?_
        exact v_ret C dX8_least_34 rfl rfl (Or.inl ⟨(fun q => by obtain ⟨q1, q2, q3⟩ := q; first | exact absurd q2 hlw | exact absurd q3 hrw | omega), by decide⟩)
    · refine b_if_eq C 33 dX8_least_18 (by decide) (show (0 : Int32).toInt = 0 by decide) (fun c23 => ?_) (fun c23 => absurd c23 (by decide))
      refine v_iconst (v := (-1)) C dX8_least_33 (by decide) ?_
      exact v_ret C dX8_least_34 rfl rfl (Or.inl ⟨(fun q => by obtain ⟨q1, q2, q3⟩ := q; first | exact absurd q2 hlw | exact absurd q3 hrw | omega), by decide⟩)

