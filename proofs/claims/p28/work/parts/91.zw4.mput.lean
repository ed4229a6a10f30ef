set_option maxRecDepth 20000 in
theorem g_put (l : Launch) (G : Gl) (n : Nat) (ad : Nat → Nat) (E : Nat → va_E) (hn : 98 ≤ n) {k N : Nat} {fo fx fy : Nat → Int32} (hk5 : k ≤ 5) (hN10 : N ≤ 10) (hok : okLs k N fo fx fy) (hED : EDs G ad k fo fx fy E N 0) {sz : Int32} {go gx gy : Nat → Int32} (hPt : PgX G ad 52 E sz go gx gy) (hN : sz.toInt = (N : Int)) {l2 d : Nat} (hl : l2 < N) (hd : d < anN k (fo l2).toInt (fx l2).toInt) (e : Int32) (he : e.toInt = ((bsN k fo fx l2 + d : Nat) : Int)) : CtV l G yX3_put cX3_put 2 4 92 (n) ad E [.ref (ad 51), .int e] (fun E' => PgX G ad 52 E' sz (upd go l2 (Int32.ofInt (anO (fo l2).toInt))) (upd gx l2 (Int32.ofInt (anX (fo l2).toInt (fx l2).toInt d))) (upd gy l2 (Int32.ofInt (anY (fo l2).toInt (fy l2).toInt d))) ∧ Fr6 52 E E') := by
  refine CtV.of (by decide) (Nat.le_of_ble_eq_true rfl) (fun X A C => ?_)
  refine v_sub (lv' := [(0, .ref (ad 51)), (1, .int e)]) [0, 1] rfl ?_
  obtain ⟨i51, el, eo, ex, ey, h51, hM, h64, h65, h66, h67, hE⟩ := id hED
  obtain ⟨ip, po, px, py, tp, kd, hEb, hsz, -, -, hEb1, hEb2, hEb3, hEb4, hEb5, hre, hro, -⟩ := id hPt
  have hent := hE l2 d (Or.inl ⟨hl, hd⟩)
  have hb5 := bs_in hd hl
  have hb6 := bs_50 (fo := fo) (fx := fx) hk5 N
  have hlb := okLn_b hk5 (an_ok (hok l2 hl) hd)
  have hl9 : (el (bsN k fo fx l2 + d)).toInt = (l2 : Int) := hent.1
  refine v_aload_n C 0 dX3_put_0 rfl rfl ?_
  refine v_getr C 51 dX3_put_1 fX3_12 (by omega) h51 rfl rfl ?_
  refine v_aload_n C 0 dX3_put_4 rfl rfl ?_
  refine v_getr C 51 dX3_put_5 fX3_21 (by omega) h51 rfl rfl ?_
  refine v_iload_n C 1 dX3_put_8 rfl rfl ?_
  refine v_ald (v := el (bsN k fo fx l2 + d)) C 64 dX3_put_9 (by omega) h64 (ti_in he (by omega) (by omega)) (by rw [ti_cl he, show Int.toNat ((bsN k fo fx l2 + d : Nat) : Int) = bsN k fo fx l2 + d by omega]) ?_
  refine v_aload_n C 0 dX3_put_10 rfl rfl ?_
  refine v_getr C 51 dX3_put_11 fX3_25 (by omega) h51 rfl rfl ?_
  refine v_iload_n C 1 dX3_put_14 rfl rfl ?_
  refine v_ald (v := eo (bsN k fo fx l2 + d)) C 65 dX3_put_15 (by omega) h65 (ti_in he (by omega) (by omega)) (by rw [ti_cl he, show Int.toNat ((bsN k fo fx l2 + d : Nat) : Int) = bsN k fo fx l2 + d by omega]) ?_
  refine v_aload_n C 0 dX3_put_16 rfl rfl ?_
  refine v_getr C 51 dX3_put_17 fX3_28 (by omega) h51 rfl rfl ?_
  refine v_iload_n C 1 dX3_put_20 rfl rfl ?_
  refine v_ald (v := ex (bsN k fo fx l2 + d)) C 66 dX3_put_21 (by omega) h66 (ti_in he (by omega) (by omega)) (by rw [ti_cl he, show Int.toNat ((bsN k fo fx l2 + d : Nat) : Int) = bsN k fo fx l2 + d by omega]) ?_
  refine v_aload_n C 0 dX3_put_22 rfl rfl ?_
  refine v_getr C 51 dX3_put_23 fX3_31 (by omega) h51 rfl rfl ?_
  refine v_iload_n C 1 dX3_put_26 rfl rfl ?_
  refine v_ald (v := ey (bsN k fo fx l2 + d)) C 67 dX3_put_27 (by omega) h67 (ti_in he (by omega) (by omega)) (by rw [ti_cl he, show Int.toNat ((bsN k fo fx l2 + d : Nat) : Int) = bsN k fo fx l2 + d by omega]) ?_
  refine v_cVv C dX3_put_28 lX3_86 mX5_replace 52 (by omega) hEb (by decide) rfl (f_replace l G n ad _ 52 (by omega) (sz := sz) (i := el (bsN k fo fx l2 + d)) (fo := go) (fx := gx) (fy := gy) hEb hsz hEb1 hEb2 hEb3 hEb4 hEb5 (fun j hj _ => hre j hj) (fun j hj _ => hro j hj) (by omega) (by omega) (eo (bsN k fo fx l2 + d)) (ex (bsN k fo fx l2 + d)) (ey (bsN k fo fx l2 + d)) (by rw [hent.2.1, ofI (by omega) (by omega)]; omega)) ⟨by decide, by decide⟩ rfl (Nat.le_of_ble_eq_true rfl) ⟨Nat.zero_le _, Nat.zero_le _⟩ (fun E1 hq2 => ?_)
  rw [show (Int32.toInt (el (bsN k fo fx l2 + d))).toNat = l2 by omega, hent.2.1, hent.2.2.1, hent.2.2.2] at hq2
  exact v_vret C dX3_put_31 rfl hq2

set_option maxRecDepth 20000 in
theorem g_undo (l : Launch) (G : Gl) (n : Nat) (ad : Nat → Nat) (E : Nat → va_E) (hn : 98 ≤ n) {k N : Nat} {fo fx fy : Nat → Int32} (hk5 : k ≤ 5) (hN10 : N ≤ 10) (hok : okLs k N fo fx fy) (hED : EDs G ad k fo fx fy E N 0) {sz : Int32} {go gx gy : Nat → Int32} (hPt : PgX G ad 52 E sz go gx gy) (hN : sz.toInt = (N : Int)) (b : Nat) (hb : b + 6 ≤ 45) (hPg : PgX G ad b E sz fo fx fy) {l2 d : Nat} (hl : l2 < N) (hd : d < anN k (fo l2).toInt (fx l2).toInt) (e : Int32) (he : e.toInt = ((bsN k fo fx l2 + d : Nat) : Int)) : CtV l G yX3_undo cX3_undo 4 4 92 (n) ad E [.ref (ad 51), .ref (ad b), .int e] (fun E' => PgX G ad 52 E' sz (upd go l2 (fo l2)) (upd gx l2 (fx l2)) (upd gy l2 (fy l2)) ∧ Fr6 52 E E') := by
  refine CtV.of (by decide) (Nat.le_of_ble_eq_true rfl) (fun X A C => ?_)
  refine v_sub (lv' := [(0, .ref (ad 51)), (1, .ref (ad b)), (2, .int e)]) [0, 1, 2] rfl ?_
  obtain ⟨i51, el, eo, ex, ey, h51, hM, h64, h65, h66, h67, hE⟩ := id hED
  obtain ⟨ip, po, px, py, tp, kd, hEb, hsz, -, -, hEb1, hEb2, hEb3, hEb4, hEb5, hre, hro, -⟩ := id hPt
  have hent := hE l2 d (Or.inl ⟨hl, hd⟩)
  have hb5 := bs_in hd hl
  have hb6 := bs_50 (fo := fo) (fx := fx) hk5 N
  have hlb := okLn_b hk5 (an_ok (hok l2 hl) hd)
  obtain ⟨jp, po2, px2, py2, tp2, kd2, hEp, -, -, -, hEp1, hEp2, hEp3, -, -, hre2, hro2, -⟩ := id hPg
  have hNt : sz.toInt.toNat = N := by omega
  obtain ⟨hf1, hf2, hf3⟩ := hre2 l2 (by omega)
  have hop2 := hro2 l2 (by omega)
  have hl9 : (el (bsN k fo fx l2 + d)).toInt = (l2 : Int) := hent.1
  refine v_aload_n C 0 dX3_undo_0 rfl rfl ?_
  refine v_getr C 51 dX3_undo_1 fX3_21 (by omega) h51 rfl rfl ?_
  refine v_iload_n C 2 dX3_undo_4 rfl rfl ?_
  refine v_ald (v := el (bsN k fo fx l2 + d)) C 64 dX3_undo_5 (by omega) h64 (ti_in he (by omega) (by omega)) (by rw [ti_cl he, show Int.toNat ((bsN k fo fx l2 + d : Nat) : Int) = bsN k fo fx l2 + d by omega]) ?_
  refine v_istore_n (lv' := [(0, .ref (ad 51)), (1, .ref (ad b)), (2, .int e), (3, .int (el (bsN k fo fx l2 + d)))]) C [1, 2, 3, 0] dX3_undo_6 rfl (by decide) rfl ?_
  refine v_aload_n C 0 dX3_undo_7 rfl rfl ?_
  refine v_getr C 51 dX3_undo_8 fX3_12 (by omega) h51 rfl rfl ?_
  refine v_iload_n C 3 dX3_undo_11 rfl rfl ?_
  refine v_aload_n C 1 dX3_undo_12 rfl rfl ?_
  refine v_getr C b dX3_undo_13 fX3_90 (by omega) hEp rfl rfl ?_
  refine v_iload_n C 3 dX3_undo_16 rfl rfl ?_
  refine v_ald (v := po2 l2) C (b + 1) dX3_undo_17 (by omega) hEp1 (ti_in hl9 (by omega) (by omega)) (by rw [ti_cl hl9, show Int.toNat (l2 : Int) = l2 by omega]) ?_
  refine v_aload_n C 1 dX3_undo_18 rfl rfl ?_
  refine v_getr C b dX3_undo_19 fX3_93 (by omega) hEp rfl rfl ?_
  refine v_iload_n C 3 dX3_undo_22 rfl rfl ?_
  refine v_ald (v := px2 l2) C (b + 2) dX3_undo_23 (by omega) hEp2 (ti_in hl9 (by omega) (by omega)) (by rw [ti_cl hl9, show Int.toNat (l2 : Int) = l2 by omega]) ?_
  refine v_aload_n C 1 dX3_undo_24 rfl rfl ?_
  refine v_getr C b dX3_undo_25 fX3_96 (by omega) hEp rfl rfl ?_
  refine v_iload_n C 3 dX3_undo_28 rfl rfl ?_
  refine v_ald (v := py2 l2) C (b + 3) dX3_undo_29 (by omega) hEp3 (ti_in hl9 (by omega) (by omega)) (by rw [ti_cl hl9, show Int.toNat (l2 : Int) = l2 by omega]) ?_
  refine v_cVv C dX3_undo_30 lX3_86 mX5_replace 52 (by omega) hEb (by decide) rfl (f_replace l G n ad _ 52 (by omega) (sz := sz) (i := el (bsN k fo fx l2 + d)) (fo := go) (fx := gx) (fy := gy) hEb hsz hEb1 hEb2 hEb3 hEb4 hEb5 (fun j hj _ => hre j hj) (fun j hj _ => hro j hj) (by omega) (by omega) (po2 l2) (px2 l2) (py2 l2) (by rw [hf1]; exact hop2)) ⟨by decide, by decide⟩ rfl (Nat.le_of_ble_eq_true rfl) ⟨Nat.zero_le _, Nat.zero_le _⟩ (fun E1 hq2 => ?_)
  rw [show (Int32.toInt (el (bsN k fo fx l2 + d))).toNat = l2 by omega, hf1, hf2, hf3] at hq2
  exact v_vret C dX3_undo_33 rfl hq2

set_option maxRecDepth 20000 in
theorem g_isRight (l : Launch) (G : Gl) (n : Nat) (ad : Nat → Nat) (E : Nat → va_E) {k : Nat} {ic md : Nat → Int32} {TT : Nat → TST} (hK : KSt G ad k ic md TT E) {sz : Int32} {fo fx fy : Nat → Int32} (hPg : PgX G ad 52 E sz fo fx fy) (hs1 : 0 ≤ sz.toInt) (hs2 : sz.toInt ≤ 10) {N : Nat} (hN : sz.toInt = (N : Int)) (hLn : okLs k N fo fx fy) {pv : Nat → Int32} (h50 : E 50 = aI G 8 pv) {i48 : Nat → Int32} (h48 : E 48 = ob 1 (rfs ad [1, 6, 49, 45]) i48) {law v : Int} (hlw : okLW (k : Int) law v) (hl4 : (i48 4).toInt = law % 10) (hl5 : (i48 5).toInt = law / 10) (hl6 : (i48 6).toInt = v) {iq ls : Nat → Int32} (h45 : E 45 = ob 4 (rfs ad [46, 47]) iq) {n0 : Nat} (hq2 : (iq 2).toInt = (n0 : Int)) (hn0 : n0 ≤ 26002) (h47 : E 47 = aI G 26002 ls) (hrg : ∀ q, q < n0 → 0 ≤ (ls q).toInt ∧ (ls q).toInt < 60000000) (hsu : ∃ q, q < n0 ∧ (ls q).toInt = (i48 7).toInt) : CtI l G yX1_isRight cX1_isRight 4 .boolean 5 124 (98 + 9 * k) ad E [.ref (ad 48), .ref (ad 52)] (fun r E' => ((r = 1 ∧ (MIS fo N = -1 ∧ ∀ q, q < n0 → KPt ic md TT fo fx fy N law v (ls q).toInt)) ∨ (r = 0 ∧ ¬ (MIS fo N = -1 ∧ ∀ q, q < n0 → KPt ic md TT fo fx fy N law v (ls q).toInt))) ∧ ∃ i2 : Nat → Int32, E' 48 = ob 1 (rfs ad [1, 6, 49, 45]) i2 ∧ (∀ q, q ≠ 7 → i2 q = i48 q) ∧ (∃ q, q < n0 ∧ (ls q).toInt = (i2 7).toInt) ∧ (∃ pv2 : Nat → Int32, E' 50 = aI G 8 pv2) ∧ ∀ j, j ≠ 48 → j ≠ 50 → E' j = E j) := by
  refine CtI.of (by decide) (Nat.le_of_ble_eq_true rfl) (fun X A C => ?_)
  refine v_sub (lv' := [(0, .ref (ad 48)), (1, .ref (ad 52))]) [0, 1] rfl ?_
  obtain ⟨⟨i49, h49⟩, hC, ⟨iz, fz, h6, hzk, h7, hfz⟩, hZY, hk5⟩ := id hK
  obtain ⟨ms, ld, ys, hC1, hC2, hC3, hC4, hC5, hP, hF⟩ := id hC
  have hcy := cal_y hP
  obtain ⟨ip, po, px, py, tp, kd, hEb, hsz, -, -, -, -, -, -, -, -, hro, hft⟩ := id hPg
  have hNt : sz.toInt.toNat = N := by omega
  rw [hNt] at hro hft
  have hmis : (ip 7).toInt = MIS fo N := hft.1
  obtain ⟨qs, hqs, hqe⟩ := id hsu
  refine v_aload_n C 1 dX1_isRight_0 rfl rfl ?_
  refine v_geti (v := ip 7) C 52 dX1_isRight_1 fX1_96 (by omega) hEb rfl rfl ?_
  refine v_iconst (v := (-1)) C dX1_isRight_4 (by decide) ?_
  refine b_icmp_eq C 10 dX1_isRight_5 (by decide) hmis (show ((-1) : Int32).toInt = (-1) by decide) (fun c1 => ?_) (fun c1 => ?_)
  · obtain ⟨Kw, hwh⟩ := MIS_whole (ops := fo) (n := N) (by omega)
    refine v_iconst (v := (-1)) C dX1_isRight_10 (by decide) ?_
    refine v_istore_n (lv' := [(0, .ref (ad 48)), (1, .ref (ad 52)), (2, .int (-1))]) C [1, 2, 0] dX1_isRight_11 rfl (by decide) rfl ?_
    have LP2 : ∀ (t : Nat) (i1 : Int) (y3 : Int32) (E4 : Nat → va_E) (pv1 : Nat → Int32), (y3.toInt = i1) → (E4 50 = aI G 8 pv1) → (∀ j, j ≠ 50 → E4 j = E j) → (-1 ≤ i1) → (i1 ≤ (n0 : Int)) → (∀ j : Nat, (j : Int) < i1 → KPt ic md TT fo fx fy N law v (ls j).toInt) → (n0 : Int) - i1 < (t : Int) → V X G A 4 (QI X G A (98 + 9 * k) ad (fun r E' => ((r = 1 ∧ (MIS fo N = -1 ∧ ∀ q, q < n0 → KPt ic md TT fo fx fy N law v (ls q).toInt)) ∨ (r = 0 ∧ ¬ (MIS fo N = -1 ∧ ∀ q, q < n0 → KPt ic md TT fo fx fy N law v (ls q).toInt))) ∧ ∃ i2 : Nat → Int32, E' 48 = ob 1 (rfs ad [1, 6, 49, 45]) i2 ∧ (∀ q, q ≠ 7 → i2 q = i48 q) ∧ (∃ q, q < n0 ∧ (ls q).toInt = (i2 7).toInt) ∧ (∃ pv2 : Nat → Int32, E' 50 = aI G 8 pv2) ∧ ∀ j, j ≠ 48 → j ≠ 50 → E' j = E j)) (98 + 9 * k) ad 0 0 E4 12 [(0, .ref (ad 48)), (1, .ref (ad 52)), (2, .int y3)] [] := by
      intro t8
      induction t8 with
      | zero => intro i1 y3 E4 pv1 hy3 hE4_50 hfr5 hq6 hq7 hall hm10; exfalso; omega
      | succ t8 ih9 =>
        intro i1 y3 E4 pv1 hy3 hE4_50 hfr5 hq6 hq7 hall hm10
        have hE4_48 := (hfr5 48 (by decide)).trans h48
        have hE4_45 := (hfr5 45 (by decide)).trans h45
        have hE4_47 := (hfr5 47 (by decide)).trans h47
        have hE4_49 := (hfr5 49 (by decide)).trans h49
        have hE4_52 := (hfr5 52 (by decide)).trans hEb
        have hK1 := hK.go (fun j hj => hfr5 j (by omega))
        have hPg1 := hPg.keep (fun j h1 h2 => hfr5 j (by omega))
        refine v_iload_n C 2 dX1_isRight_12 rfl rfl ?_
        refine v_aload_n C 0 dX1_isRight_13 rfl rfl ?_
        refine v_getr C 48 dX1_isRight_14 fX1_19 (by omega) hE4_48 rfl rfl ?_
        refine v_geti (v := iq 2) C 45 dX1_isRight_17 fX1_74 (by omega) hE4_45 rfl rfl ?_
        refine b_icmp_ge C 78 dX1_isRight_20 (by decide) hy3 hq2 (fun c11 => ?_) (fun c11 => ?_)
        · refine v_iconst (v := 1) C dX1_isRight_78 (by decide) ?_
          exact v_ret C dX1_isRight_79 rfl rfl ⟨Or.inl ⟨rfl, by omega, fun q hq => hall q (by omega)⟩, ⟨i48, hE4_48, fun _ _ => rfl, hsu, ⟨_, hE4_50⟩, fun j g1 g2 => (hfr5 j g2)⟩⟩
        · refine v_iload_n C 2 dX1_isRight_23 rfl rfl ?_
          refine b_if_ge C 34 dX1_isRight_24 (by decide) hy3 (fun c12 => ?_) (fun c12 => ?_)
          · refine v_aload_n C 0 dX1_isRight_34 rfl rfl ?_
            refine v_getr C 48 dX1_isRight_35 fX1_19 (by omega) hE4_48 rfl rfl ?_
            refine v_getr C 45 dX1_isRight_38 fX1_79 (by omega) hE4_45 rfl rfl ?_
            refine v_iload_n C 2 dX1_isRight_41 rfl rfl ?_
            refine v_ald (v := ls i1.toNat) C 47 dX1_isRight_42 (by omega) hE4_47 (ti_in hy3 (by omega) (by omega)) (by rw [ti_cl hy3, show Int.toNat i1 = i1.toNat by omega]) ?_
            have hm := hrg i1.toNat (by omega)
            refine v_istore_n (lv' := [(0, .ref (ad 48)), (1, .ref (ad 52)), (2, .int y3), (3, .int (ls i1.toNat))]) C [1, 2, 3, 0] dX1_isRight_43 rfl (by decide) rfl ?_
            refine v_aload_n C 0 dX1_isRight_44 rfl rfl ?_
            refine v_aload_n C 1 dX1_isRight_45 rfl rfl ?_
            refine v_geti (v := ip 8) C 52 dX1_isRight_46 fX1_83 (by omega) hE4_52 rfl rfl ?_
            refine v_aload_n C 0 dX1_isRight_49 rfl rfl ?_
            refine v_getr C 48 dX1_isRight_50 fX1_28 (by omega) hE4_48 rfl rfl ?_
            refine v_aload_n C 1 dX1_isRight_53 rfl rfl ?_
            refine v_iload_n C 3 dX1_isRight_54 rfl rfl ?_
            refine v_cVi C dX1_isRight_55 lX1_88 mX2_answerOf 49 (by omega) hE4_49 (by decide) rfl (g_answerT l G 0 ad _ hK1 hPg1 hs1 hs2 hN hwh hLn hE4_50 (ls i1.toNat) hm) ⟨by decide, by decide⟩ rfl (Nat.le_of_ble_eq_true rfl) ⟨Nat.zero_le _, Nat.zero_le _⟩ (fun r13 E14 hq15 => ?_)
            obtain ⟨hrv, ⟨pv2, h50b⟩, hO2⟩ := hq15
            have rE14_48 := (hO2 48 (by omega)).trans hE4_48
            have rE14_45 := (hO2 45 (by omega)).trans hE4_45
            have rE14_47 := (hO2 47 (by omega)).trans hE4_47
            have rE14_49 := (hO2 49 (by omega)).trans hE4_49
            have rE14_52 := (hO2 52 (by omega)).trans hE4_52
            have hK2 := hK1.go (fun j hj => hO2 j (by omega))
            refine v_iload_n C 3 dX1_isRight_58 rfl rfl ?_
            have hKd : (ip 8).toInt = KDr fo N := by rw [hft.2.1 Kw hwh, KD_of hwh]
            have hK0 := (RS_ok N _ hwh).2 0 (show ((0 : Nat) : Int) < 1 by decide)
            dsimp only at hK0
            have hK8 : (ip 8).toInt = (Kw 0).toInt := by rw [hft.2.1 Kw hwh]
            have hwi := RU_bd (ic := ic) (md := md) (TT := TT) (fx := fx) (fy := fy) hm hro hwh
            rw [← hrv, ← hK8] at hwi
            refine v_cVp C dX1_isRight_59 lX1_92 mX1_holds 48 (by omega) rE14_48 (by decide) rfl (g_holds l G 0 ad _ hK2 rE14_48 (zz := (law / 10).toNat) (by unfold okLW at hlw; omega) (fun q => by unfold okLW at hlw; omega) (ip 8) r13 (ls i1.toNat) hwi (by omega) hm) ⟨by decide, by decide⟩ rfl (Nat.le_of_ble_eq_true rfl) ⟨Nat.zero_le _, Nat.zero_le _⟩ (fun r16 hp17 => ?_)
            rw [hl4, hl6, hKd, hrv] at hp17
            rcases hp17 with ⟨rfl, hkp⟩ | ⟨rfl, hkp⟩
            · refine b_if_ne C 72 dX1_isRight_62 (by decide) (show (1 : Int32).toInt = 1 by decide) (fun c18 => ?_) (fun c18 => absurd c18 (by decide))
              obtain ⟨x19, ex19⟩ : ∃ y : Int32, y = y3 + 1 := ⟨_, rfl⟩
              have hx19 : x19.toInt = (i1 + 1) := by rw [ex19]; exact ti_add hy3 (show (1 : Int32).toInt = 1 by decide) (by omega) (by omega)
              refine v_iinc (v := x19) (lv' := [(0, .ref (ad 48)), (1, .ref (ad 52)), (2, .int x19), (3, .int (ls i1.toNat))]) C 2 [1, 2, 0, 3] dX1_isRight_72 rfl (ex19.symm) (by decide) rfl ?_
              refine v_goto C 12 dX1_isRight_75 (by decide) ?_
              refine v_sub (lv' := [(0, .ref (ad 48)), (1, .ref (ad 52)), (2, .int x19)]) [0, 1, 2] rfl ?_
              exact ih9 (i1 + 1) x19 E14 pv2 hx19 h50b (fun j g0 => ((hO2 j g0).trans (hfr5 j g0))) (by omega) (by omega) (fun j hj => by by_cases q : j = i1.toNat; (subst q; exact hkp); exact hall j (by omega)) (by omega)
            · refine b_if_ne C 72 dX1_isRight_62 (by decide) (show (0 : Int32).toInt = 0 by decide) (fun c20 => absurd c20 (by decide)) (fun c20 => ?_)
              refine v_aload_n C 0 dX1_isRight_65 rfl rfl ?_
              refine v_iload_n C 3 dX1_isRight_66 rfl rfl ?_
              refine v_puti C 48 dX1_isRight_67 fX1_99 (by omega) rE14_48 rfl rfl rfl rfl (fun E21 hE21_48 oE21 => ?_)
              have hE21_45 := (oE21 45 (by decide)).trans rE14_45
              have hE21_47 := (oE21 47 (by decide)).trans rE14_47
              have hE21_49 := (oE21 49 (by decide)).trans rE14_49
              have hE21_52 := (oE21 52 (by decide)).trans rE14_52
              have hE21_50 := (oE21 50 (by decide)).trans h50b
              refine v_iconst (v := 0) C dX1_isRight_70 (by decide) ?_
              exact v_ret C dX1_isRight_71 rfl rfl ⟨Or.inr ⟨rfl, fun q => hkp (q.2 i1.toNat (by omega))⟩, ⟨_, hE21_48, (fun q hq => if_neg hq), ⟨i1.toNat, by omega, by simp [va_up]⟩, ⟨_, hE21_50⟩, fun j g1 g2 => ((oE21 j g1).trans ((hO2 j g2).trans (hfr5 j g2)))⟩⟩
          · refine v_aload_n C 0 dX1_isRight_27 rfl rfl ?_
            refine v_geti (v := i48 7) C 48 dX1_isRight_28 fX1_99 (by omega) hE4_48 rfl rfl ?_
            refine v_goto C 43 dX1_isRight_31 (by decide) ?_
            have hm : 0 ≤ (i48 7).toInt ∧ (i48 7).toInt < 60000000 := by rw [← hqe]; exact hrg qs hqs
            refine v_istore_n (lv' := [(0, .ref (ad 48)), (1, .ref (ad 52)), (2, .int y3), (3, .int (i48 7))]) C [1, 2, 3, 0] dX1_isRight_43 rfl (by decide) rfl ?_
            refine v_aload_n C 0 dX1_isRight_44 rfl rfl ?_
            refine v_aload_n C 1 dX1_isRight_45 rfl rfl ?_
            refine v_geti (v := ip 8) C 52 dX1_isRight_46 fX1_83 (by omega) hE4_52 rfl rfl ?_
            refine v_aload_n C 0 dX1_isRight_49 rfl rfl ?_
            refine v_getr C 48 dX1_isRight_50 fX1_28 (by omega) hE4_48 rfl rfl ?_
            refine v_aload_n C 1 dX1_isRight_53 rfl rfl ?_
            refine v_iload_n C 3 dX1_isRight_54 rfl rfl ?_
            refine v_cVi C dX1_isRight_55 lX1_88 mX2_answerOf 49 (by omega) hE4_49 (by decide) rfl (g_answerT l G 0 ad _ hK1 hPg1 hs1 hs2 hN hwh hLn hE4_50 (i48 7) hm) ⟨by decide, by decide⟩ rfl (Nat.le_of_ble_eq_true rfl) ⟨Nat.zero_le _, Nat.zero_le _⟩ (fun r22 E23 hq24 => ?_)
            obtain ⟨hrv, ⟨pv2, h50b⟩, hO2⟩ := hq24
            have rE23_48 := (hO2 48 (by omega)).trans hE4_48
            have rE23_45 := (hO2 45 (by omega)).trans hE4_45
            have rE23_47 := (hO2 47 (by omega)).trans hE4_47
            have rE23_49 := (hO2 49 (by omega)).trans hE4_49
            have rE23_52 := (hO2 52 (by omega)).trans hE4_52
            have hK2 := hK1.go (fun j hj => hO2 j (by omega))
            refine v_iload_n C 3 dX1_isRight_58 rfl rfl ?_
            have hKd : (ip 8).toInt = KDr fo N := by rw [hft.2.1 Kw hwh, KD_of hwh]
            have hK0 := (RS_ok N _ hwh).2 0 (show ((0 : Nat) : Int) < 1 by decide)
            dsimp only at hK0
            have hK8 : (ip 8).toInt = (Kw 0).toInt := by rw [hft.2.1 Kw hwh]
            have hwi := RU_bd (ic := ic) (md := md) (TT := TT) (fx := fx) (fy := fy) hm hro hwh
            rw [← hrv, ← hK8] at hwi
            refine v_cVp C dX1_isRight_59 lX1_92 mX1_holds 48 (by omega) rE23_48 (by decide) rfl (g_holds l G 0 ad _ hK2 rE23_48 (zz := (law / 10).toNat) (by unfold okLW at hlw; omega) (fun q => by unfold okLW at hlw; omega) (ip 8) r22 (i48 7) hwi (by omega) hm) ⟨by decide, by decide⟩ rfl (Nat.le_of_ble_eq_true rfl) ⟨Nat.zero_le _, Nat.zero_le _⟩ (fun r25 hp26 => ?_)
            rw [hl4, hl6, hKd, hrv] at hp26
            rcases hp26 with ⟨rfl, hkp⟩ | ⟨rfl, hkp⟩
            · refine b_if_ne C 72 dX1_isRight_62 (by decide) (show (1 : Int32).toInt = 1 by decide) (fun c27 => ?_) (fun c27 => absurd c27 (by decide))
              obtain ⟨x28, ex28⟩ : ∃ y : Int32, y = y3 + 1 := ⟨_, rfl⟩
              have hx28 : x28.toInt = (i1 + 1) := by rw [ex28]; exact ti_add hy3 (show (1 : Int32).toInt = 1 by decide) (by omega) (by omega)
              refine v_iinc (v := x28) (lv' := [(0, .ref (ad 48)), (1, .ref (ad 52)), (2, .int x28), (3, .int (i48 7))]) C 2 [1, 2, 0, 3] dX1_isRight_72 rfl (ex28.symm) (by decide) rfl ?_
              refine v_goto C 12 dX1_isRight_75 (by decide) ?_
              refine v_sub (lv' := [(0, .ref (ad 48)), (1, .ref (ad 52)), (2, .int x28)]) [0, 1, 2] rfl ?_
              exact ih9 (i1 + 1) x28 E23 pv2 hx28 h50b (fun j g0 => ((hO2 j g0).trans (hfr5 j g0))) (by omega) (by omega) (fun j hj => absurd hj (by omega)) (by omega)
            · refine b_if_ne C 72 dX1_isRight_62 (by decide) (show (0 : Int32).toInt = 0 by decide) (fun c29 => absurd c29 (by decide)) (fun c29 => ?_)
              refine v_aload_n C 0 dX1_isRight_65 rfl rfl ?_
              refine v_iload_n C 3 dX1_isRight_66 rfl rfl ?_
              refine v_puti C 48 dX1_isRight_67 fX1_99 (by omega) rE23_48 rfl rfl rfl rfl (fun E30 hE30_48 oE30 => ?_)
              have hE30_45 := (oE30 45 (by decide)).trans rE23_45
              have hE30_47 := (oE30 47 (by decide)).trans rE23_47
              have hE30_49 := (oE30 49 (by decide)).trans rE23_49
              have hE30_52 := (oE30 52 (by decide)).trans rE23_52
              have hE30_50 := (oE30 50 (by decide)).trans h50b
              refine v_iconst (v := 0) C dX1_isRight_70 (by decide) ?_
              exact v_ret C dX1_isRight_71 rfl rfl ⟨Or.inr ⟨rfl, fun q => hkp (by rw [← hqe]; exact q.2 qs hqs)⟩, ⟨_, hE30_48, (fun q hq => if_neg hq), ⟨qs, hqs, by simp [va_up]; exact hqe⟩, ⟨_, hE30_50⟩, fun j g1 g2 => ((oE30 j g1).trans ((hO2 j g2).trans (hfr5 j g2)))⟩⟩
    exact LP2 100000 (-1) (-1) E pv (show ((-1) : Int32).toInt = (-1) by decide) h50 (fun j _ => rfl) (by omega) (by omega) (fun j hj => absurd hj (by omega)) (by omega)
  · refine v_iconst (v := 0) C dX1_isRight_8 (by decide) ?_
    exact v_ret C dX1_isRight_9 rfl rfl ⟨Or.inr ⟨rfl, fun q => absurd q.1 (by omega)⟩, ⟨i48, h48, fun _ _ => rfl, hsu, ⟨_, h50⟩, fun j g1 g2 => rfl⟩⟩

