set_option maxRecDepth 20000 in
theorem w_least (l : Launch) (G : Gl) (ad : Nat → Nat) {k : Nat} {ic md fl gop gx gy rf rto ron rat rbe rtd rm fv : Nat → Int32} {kn : Int32} {E0 E : Nat → va_E} (hJ : JZ l G ad k (ZCo G ad k ic md rf rto ron rat rbe rtd rm fv kn.toInt) (ZYc G ad k ic md rf rto ron rat rbe rtd rm fv) E0 E) (hKc : KCl G ad k ic md kn fl gop gx gy rf rto ron rat rbe rtd rm fv E) (hV : ∀ z, z < k → RZv ic rf rto ron rat rbe rtd rm fv z) (x : Int32) (y : Int32) (z : Int32) (u : Int32) (v : Int32) : CtI l G yX8_least cX8_least 8 .int 6 147 (98 + 9 * k) ad E [.ref (ad 0), .int x, .int y, .int z, .int u, .int v] (fun r E' => ((-2147483648 : Int) ≤ r.toInt ∧ r.toInt ≤ 2147483647) ∧ JZ l G ad k (ZCo G ad k ic md rf rto ron rat rbe rtd rm fv kn.toInt) (ZYc G ad k ic md rf rto ron rat rbe rtd rm fv) E0 E') := by
  refine CtI.of (by decide) (Nat.le_of_ble_eq_true rfl) (fun X A C => ?_)
  refine v_sub (lv' := [(0, .ref (ad 0)), (1, .int x), (2, .int y), (3, .int z), (4, .int u), (5, .int v)]) [0, 1, 2, 3, 4, 5] rfl ?_
  have hk5 := hJ.1.1
  have hP : CalP ic md := by obtain ⟨-, ⟨ms, ld, ys, -, -, -, -, -, hP, -⟩, -⟩ := hKc; exact hP
  refine v_aload_n C 0 dX8_least_0 rfl rfl ?_
  refine v_iload_n C 1 dX8_least_1 rfl rfl ?_
  obtain ⟨io3, hE3⟩ := hJ.c0
  refine v_cVr C dX8_least_2 lX8_177 mX8_programAt 0 (by omega) hE3 (by decide) rfl (t_X8_programAt l G ad hJ.1 x) ⟨by decide, by decide⟩ rfl (Nat.le_of_ble_eq_true rfl) ⟨Nat.zero_le _, Nat.zero_le _⟩ (fun r1 hp2 => ?_)
  rcases hp2 with ⟨hno4, rfl⟩ | ⟨i4x, hi4, hk4, rfl⟩
  · refine v_astoreN (lv' := [(0, .ref (ad 0)), (1, .int x), (2, .int y), (3, .int z), (4, .int u), (5, .int v), (6, .null)]) C [1, 2, 3, 4, 5, 6, 0] dX8_least_5 (by decide) rfl ?_
    refine v_aloadN C 6 dX8_least_7 rfl ?_
    refine v_ifnullN C 33 dX8_least_9 (by decide) ?_
    refine v_iconst (v := (-1)) C dX8_least_33 (by decide) ?_
    exact v_ret C dX8_least_34 rfl rfl ⟨(ti_any (-1)), hJ⟩
  · obtain ⟨c4, ec4⟩ : ∃ q : Nat, q = 9 + 6 * i4x := ⟨_, rfl⟩
    rw [← ec4]
    have hc4 : PC c4 := by rw [ec4]; exact PC.p hk4
    have hc4l : c4 < 45 := by omega
    have hc4n := hc4.n
    refine v_astore (lv' := [(0, .ref (ad 0)), (1, .int x), (2, .int y), (3, .int z), (4, .int u), (5, .int v), (6, .ref (ad c4))]) C [1, 2, 3, 4, 5, 6, 0] dX8_least_5 (by decide) rfl ?_
    refine v_aload C 6 dX8_least_7 rfl ?_
    refine v_ifnull C dX8_least_9 ?_
    refine v_aload_n C 0 dX8_least_12 rfl rfl ?_
    refine v_iload_n C 2 dX8_least_13 rfl rfl ?_
    refine v_iload_n C 3 dX8_least_14 rfl rfl ?_
    refine v_cVp C dX8_least_15 lX8_219 mX8_isLaw 0 (by omega) hE3 (by decide) rfl (t_X8_isLaw l G ad hJ.1 y z) ⟨by decide, by decide⟩ rfl (Nat.le_of_ble_eq_true rfl) ⟨Nat.zero_le _, Nat.zero_le _⟩ (fun r5 hp6 => ?_)
    rcases hp6 with rfl | rfl
    · refine b_if_eq C 33 dX8_least_18 (by decide) (show (0 : Int32).toInt = 0 by decide) (fun c7 => ?_) (fun c7 => absurd c7 (by decide))
      refine v_iconst (v := (-1)) C dX8_least_33 (by decide) ?_
      exact v_ret C dX8_least_34 rfl rfl ⟨(ti_any (-1)), hJ⟩
    · refine b_if_eq C 33 dX8_least_18 (by decide) (show (1 : Int32).toInt = 1 by decide) (fun c8 => absurd c8 (by decide)) (fun c8 => ?_)
      refine v_iload C 4 dX8_least_21 rfl ?_
      refine v_iload C 5 dX8_least_23 rfl ?_
      refine v_ldc C dX8_least_25 kX8_243 ?_
      refine v_cSp C dX8_least_27 lX8_244 mX8_isReach (g_isReach l G _ ad _ u v 2000000 (by decide)) ⟨by decide, by decide⟩ rfl (Nat.le_of_ble_eq_true rfl) ⟨Nat.zero_le _, Nat.zero_le _⟩ (fun r9 hp10 => ?_)
      rcases hp10 with ⟨rfl, hrw⟩ | ⟨rfl, hrw⟩
      · have hmo : (2000000 : Int32).toInt = 2000000 := by decide
        rw [hmo] at hrw
        unfold okRow at hrw
        have hu : (0 : Int) ≤ u.toInt ∧ u.toInt ≤ 59999999 := by omega
        have hv : (0 : Int) ≤ v.toInt ∧ v.toInt ≤ 2000000 := by omega
        refine b_if_ne C 35 dX8_least_30 (by decide) (show (1 : Int32).toInt = 1 by decide) (fun c11 => ?_) (fun c11 => absurd c11 (by decide))
        refine v_aload C 6 dX8_least_35 rfl ?_
        obtain ⟨i12, hE12, hb12⟩ := hJ.1.2.2.getO (b := c4) (by omega) (hc4.t0 k)
        refine v_geti (v := i12 7) C c4 dX8_least_37 fX8_198 (by omega) hE12 rfl rfl ?_
        refine v_iconst (v := (-1)) C dX8_least_40 (by decide) ?_
        refine b_icmp_eq C 47 dX8_least_41 (by decide) (rfl : Int32.toInt (i12 7) = _) (show ((-1) : Int32).toInt = (-1) by decide) (fun c13 => ?_) (fun c13 => ?_)
        · refine v_aload_n C 0 dX8_least_47 rfl rfl ?_
          refine v_iload C 4 dX8_least_48 rfl ?_
          refine v_iload C 4 dX8_least_50 rfl ?_
          refine v_iload C 5 dX8_least_52 rfl ?_
          refine v_iadd C dX8_least_54 ?_
          refine v_top (fun x14 ex14 => ?_)
          have hx14 : x14.toInt = (u.toInt + v.toInt) := by rw [ex14]; exact ti_add (rfl : Int32.toInt u = _) (rfl : Int32.toInt v = _) (by omega) (by omega)
          have hab : okOD u.toInt x14.toInt := by unfold okOD; have := hx14; omega
          refine v_cVv C dX8_least_55 lX8_233 mX8_gatherOdds 0 (by omega) hE3 (by decide) rfl (k_gatherOdds l G 0 ad _ hKc hV hJ.2.1.2 u x14 hab) ⟨by decide, by decide⟩ rfl (Nat.le_of_ble_eq_true rfl) ⟨Nat.zero_le _, Nat.zero_le _⟩ (fun E15 hq16 => ?_)
          obtain ⟨hgo, hKg, hZg, hOg⟩ := hq16
          have hJ17 : JZ l G ad k (ZCo G ad k ic md rf rto ron rat rbe rtd rm fv kn.toInt) (ZYc G ad k ic md rf rto ron rat rbe rtd rm fv) E0 E15 := ⟨SOd.j8 ⟨hOg, hZg, hgo.odc hab⟩ hJ.1 hP hV, ⟨hZg, hgo.odc hab⟩, hJ.2.2⟩
          refine v_aload_n C 0 dX8_least_58 rfl rfl ?_
          obtain ⟨io18, hE18⟩ := hJ17.c0
          refine v_getr C 0 dX8_least_59 fX8_42 (by omega) hE18 rfl rfl ?_
          refine v_iload_n C 2 dX8_least_62 rfl rfl ?_
          refine v_bipush (v := 10) C dX8_least_63 (by decide) ?_
          refine v_irem C dX8_least_65 (by decide) ?_
          refine v_top (fun x19 _ => ?_)
          refine v_iload_n C 2 dX8_least_66 rfl rfl ?_
          refine v_bipush (v := 10) C dX8_least_67 (by decide) ?_
          refine v_idiv C dX8_least_69 (by decide) ?_
          refine v_top (fun x20 ex20 => ?_)
          have hx20 : (-214748364 : Int) ≤ x20.toInt ∧ x20.toInt ≤ 214748364 := by rw [ex20]; exact ti_tdb (show (10 : Int32).toInt = 10 by decide) (by decide)
          refine v_iload_n C 3 dX8_least_70 rfl rfl ?_
          obtain ⟨i25, hE25, hb25⟩ := hJ17.1.2.2.getO (b := 48) (by omega) rfl
          refine v_cVv C dX8_least_71 lX8_223 mX1_hear 48 (by omega) hE25 (by decide) rfl (tz_X1_hear l G ad hJ17 x19 x20 z) ⟨by decide, by decide⟩ rfl (Nat.le_of_ble_eq_true rfl) ⟨Nat.zero_le _, Nat.zero_le _⟩ (fun E22 hJ24 => ?_)
          refine v_aload_n C 0 dX8_least_74 rfl rfl ?_
          obtain ⟨io26, hE26⟩ := hJ24.c0
          refine v_getr C 0 dX8_least_75 fX8_42 (by omega) hE26 rfl rfl ?_
          refine v_aload C 6 dX8_least_78 rfl ?_
          obtain ⟨i31, hE31, hb31⟩ := hJ24.1.2.2.getO (b := 48) (by omega) rfl
          refine v_cVi C dX8_least_80 lX8_247 mX1_firstBroken 48 (by omega) hE31 (by decide) rfl (tz_X1_firstBroken l G ad hJ24 c4 hc4) ⟨by decide, by decide⟩ rfl (Nat.le_of_ble_eq_true rfl) ⟨Nat.zero_le _, Nat.zero_le _⟩ (fun r27 E28 hp29 => ?_)
          obtain ⟨hp29, hJ30⟩ := hp29
          refine v_istore (lv' := [(0, .ref (ad 0)), (1, .int x), (2, .int y), (3, .int z), (4, .int u), (5, .int v), (6, .ref (ad c4)), (7, .int r27)]) C [1, 2, 3, 4, 5, 6, 7, 0] dX8_least_83 (by decide) rfl ?_
          refine v_iload C 7 dX8_least_85 rfl ?_
          refine v_iconst (v := (-1)) C dX8_least_87 (by decide) ?_
          refine b_icmp_ne C 96 dX8_least_88 (by decide) (rfl : Int32.toInt r27 = _) (show ((-1) : Int32).toInt = (-1) by decide) (fun c32 => ?_) (fun c32 => ?_)
          · refine v_iload C 7 dX8_least_96 rfl ?_
            exact v_ret C dX8_least_98 rfl rfl ⟨(ti_any r27), hJ30⟩
          · refine v_bipush (v := (-6)) C dX8_least_91 (by decide) ?_
            refine v_goto C 98 dX8_least_93 (by decide) ?_
            exact v_ret C dX8_least_98 rfl rfl ⟨(ti_any (-6)), hJ30⟩
        · refine v_bipush (v := (-4)) C dX8_least_44 (by decide) ?_
          exact v_ret C dX8_least_46 rfl rfl ⟨(ti_any (-4)), hJ⟩
      · refine b_if_ne C 35 dX8_least_30 (by decide) (show (0 : Int32).toInt = 0 by decide) (fun c33 => absurd c33 (by decide)) (fun c33 => ?_)
        refine v_iconst (v := (-1)) C dX8_least_33 (by decide) ?_
        exact v_ret C dX8_least_34 rfl rfl ⟨(ti_any (-1)), hJ⟩

set_option maxRecDepth 20000 in
theorem w_mend (l : Launch) (G : Gl) (ad : Nat → Nat) {k : Nat} {ic md fl gop gx gy rf rto ron rat rbe rtd rm fv : Nat → Int32} {kn : Int32} {E0 E : Nat → va_E} (hJ : JZ l G ad k (ZCo G ad k ic md rf rto ron rat rbe rtd rm fv kn.toInt) (ZYc G ad k ic md rf rto ron rat rbe rtd rm fv) E0 E) (hKc : KCl G ad k ic md kn fl gop gx gy rf rto ron rat rbe rtd rm fv E) (hV : ∀ z, z < k → RZv ic rf rto ron rat rbe rtd rm fv z) (x : Int32) (y : Int32) (z : Int32) (u : Int32) (v : Int32) : CtI l G yX8_mend cX8_mend 8 .int 7 170 (98 + 9 * k) ad E [.ref (ad 0), .int x, .int y, .int z, .int u, .int v] (fun r E' => ((-2147483648 : Int) ≤ r.toInt ∧ r.toInt ≤ 2147483647) ∧ JZ l G ad k (ZCo G ad k ic md rf rto ron rat rbe rtd rm fv kn.toInt) (ZYc G ad k ic md rf rto ron rat rbe rtd rm fv) E0 E') := by
  refine CtI.of (by decide) (Nat.le_of_ble_eq_true rfl) (fun X A C => ?_)
  refine v_sub (lv' := [(0, .ref (ad 0)), (1, .int x), (2, .int y), (3, .int z), (4, .int u), (5, .int v)]) [0, 1, 2, 3, 4, 5] rfl ?_
  have hk5 := hJ.1.1
  have hP : CalP ic md := by obtain ⟨-, ⟨ms, ld, ys, -, -, -, -, -, hP, -⟩, -⟩ := hKc; exact hP
  refine v_aload_n C 0 dX8_mend_0 rfl rfl ?_
  refine v_iload_n C 1 dX8_mend_1 rfl rfl ?_
  obtain ⟨io3, hE3⟩ := hJ.c0
  refine v_cVr C dX8_mend_2 lX8_177 mX8_programAt 0 (by omega) hE3 (by decide) rfl (t_X8_programAt l G ad hJ.1 x) ⟨by decide, by decide⟩ rfl (Nat.le_of_ble_eq_true rfl) ⟨Nat.zero_le _, Nat.zero_le _⟩ (fun r1 hp2 => ?_)
  rcases hp2 with ⟨hno4, rfl⟩ | ⟨i4x, hi4, hk4, rfl⟩
  · refine v_astoreN (lv' := [(0, .ref (ad 0)), (1, .int x), (2, .int y), (3, .int z), (4, .int u), (5, .int v), (6, .null)]) C [1, 2, 3, 4, 5, 6, 0] dX8_mend_5 (by decide) rfl ?_
    refine v_aloadN C 6 dX8_mend_7 rfl ?_
    refine v_ifnullN C 33 dX8_mend_9 (by decide) ?_
    refine v_iconst (v := (-1)) C dX8_mend_33 (by decide) ?_
    exact v_ret C dX8_mend_34 rfl rfl ⟨(ti_any (-1)), hJ⟩
  · obtain ⟨c4, ec4⟩ : ∃ q : Nat, q = 9 + 6 * i4x := ⟨_, rfl⟩
    rw [← ec4]
    have hc4 : PC c4 := by rw [ec4]; exact PC.p hk4
    have hc4l : c4 < 45 := by omega
    have hc4n := hc4.n
    refine v_astore (lv' := [(0, .ref (ad 0)), (1, .int x), (2, .int y), (3, .int z), (4, .int u), (5, .int v), (6, .ref (ad c4))]) C [1, 2, 3, 4, 5, 6, 0] dX8_mend_5 (by decide) rfl ?_
    refine v_aload C 6 dX8_mend_7 rfl ?_
    refine v_ifnull C dX8_mend_9 ?_
    refine v_aload_n C 0 dX8_mend_12 rfl rfl ?_
    refine v_iload_n C 2 dX8_mend_13 rfl rfl ?_
    refine v_iload_n C 3 dX8_mend_14 rfl rfl ?_
    refine v_cVp C dX8_mend_15 lX8_219 mX8_isLaw 0 (by omega) hE3 (by decide) rfl (t_X8_isLaw l G ad hJ.1 y z) ⟨by decide, by decide⟩ rfl (Nat.le_of_ble_eq_true rfl) ⟨Nat.zero_le _, Nat.zero_le _⟩ (fun r5 hp6 => ?_)
    rcases hp6 with rfl | rfl
    · refine b_if_eq C 33 dX8_mend_18 (by decide) (show (0 : Int32).toInt = 0 by decide) (fun c7 => ?_) (fun c7 => absurd c7 (by decide))
      refine v_iconst (v := (-1)) C dX8_mend_33 (by decide) ?_
      exact v_ret C dX8_mend_34 rfl rfl ⟨(ti_any (-1)), hJ⟩
    · refine b_if_eq C 33 dX8_mend_18 (by decide) (show (1 : Int32).toInt = 1 by decide) (fun c8 => absurd c8 (by decide)) (fun c8 => ?_)
      refine v_iload C 4 dX8_mend_21 rfl ?_
      refine v_iload C 5 dX8_mend_23 rfl ?_
      refine v_ldc C dX8_mend_25 kX8_251 ?_
      refine v_cSp C dX8_mend_27 lX8_244 mX8_isReach (g_isReach l G _ ad _ u v 100000 (by decide)) ⟨by decide, by decide⟩ rfl (Nat.le_of_ble_eq_true rfl) ⟨Nat.zero_le _, Nat.zero_le _⟩ (fun r9 hp10 => ?_)
      rcases hp10 with ⟨rfl, hrw⟩ | ⟨rfl, hrw⟩
      · have hmo : (100000 : Int32).toInt = 100000 := by decide
        rw [hmo] at hrw
        unfold okRow at hrw
        have hu : (0 : Int) ≤ u.toInt ∧ u.toInt ≤ 59999999 := by omega
        have hv : (0 : Int) ≤ v.toInt ∧ v.toInt ≤ 100000 := by omega
        refine b_if_ne C 35 dX8_mend_30 (by decide) (show (1 : Int32).toInt = 1 by decide) (fun c11 => ?_) (fun c11 => absurd c11 (by decide))
        refine v_aload_n C 0 dX8_mend_35 rfl rfl ?_
        refine v_iload C 4 dX8_mend_36 rfl ?_
        refine v_iload C 4 dX8_mend_38 rfl ?_
        refine v_iload C 5 dX8_mend_40 rfl ?_
        refine v_iadd C dX8_mend_42 ?_
        refine v_top (fun x12 ex12 => ?_)
        have hx12 : x12.toInt = (u.toInt + v.toInt) := by rw [ex12]; exact ti_add (rfl : Int32.toInt u = _) (rfl : Int32.toInt v = _) (by omega) (by omega)
        have hab : okOD u.toInt x12.toInt := by unfold okOD; have := hx12; omega
        refine v_cVv C dX8_mend_43 lX8_233 mX8_gatherOdds 0 (by omega) hE3 (by decide) rfl (k_gatherOdds l G 0 ad _ hKc hV hJ.2.1.2 u x12 hab) ⟨by decide, by decide⟩ rfl (Nat.le_of_ble_eq_true rfl) ⟨Nat.zero_le _, Nat.zero_le _⟩ (fun E13 hq14 => ?_)
        obtain ⟨hgo, hKg, hZg, hOg⟩ := hq14
        have hJ15 : JZ l G ad k (ZCo G ad k ic md rf rto ron rat rbe rtd rm fv kn.toInt) (ZYc G ad k ic md rf rto ron rat rbe rtd rm fv) E0 E13 := ⟨SOd.j8 ⟨hOg, hZg, hgo.odc hab⟩ hJ.1 hP hV, ⟨hZg, hgo.odc hab⟩, hJ.2.2⟩
        refine v_aload_n C 0 dX8_mend_46 rfl rfl ?_
        obtain ⟨io16, hE16⟩ := hJ15.c0
        refine v_getr C 0 dX8_mend_47 fX8_42 (by omega) hE16 rfl rfl ?_
        refine v_iload_n C 2 dX8_mend_50 rfl rfl ?_
        refine v_bipush (v := 10) C dX8_mend_51 (by decide) ?_
        refine v_irem C dX8_mend_53 (by decide) ?_
        refine v_top (fun x17 _ => ?_)
        refine v_iload_n C 2 dX8_mend_54 rfl rfl ?_
        refine v_bipush (v := 10) C dX8_mend_55 (by decide) ?_
        refine v_idiv C dX8_mend_57 (by decide) ?_
        refine v_top (fun x18 ex18 => ?_)
        have hx18 : (-214748364 : Int) ≤ x18.toInt ∧ x18.toInt ≤ 214748364 := by rw [ex18]; exact ti_tdb (show (10 : Int32).toInt = 10 by decide) (by decide)
        refine v_iload_n C 3 dX8_mend_58 rfl rfl ?_
        obtain ⟨i23, hE23, hb23⟩ := hJ15.1.2.2.getO (b := 48) (by omega) rfl
        refine v_cVv C dX8_mend_59 lX8_223 mX1_hear 48 (by omega) hE23 (by decide) rfl (tz_X1_hear l G ad hJ15 x17 x18 z) ⟨by decide, by decide⟩ rfl (Nat.le_of_ble_eq_true rfl) ⟨Nat.zero_le _, Nat.zero_le _⟩ (fun E20 hJ22 => ?_)
        refine v_aload_n C 0 dX8_mend_62 rfl rfl ?_
        obtain ⟨io24, hE24⟩ := hJ22.c0
        refine v_getr C 0 dX8_mend_63 fX8_51 (by omega) hE24 rfl rfl ?_
        refine v_aload C 6 dX8_mend_66 rfl ?_
        obtain ⟨i29, hE29, hb29⟩ := hJ22.1.2.2.getO (b := 51) (by omega) rfl
        refine v_cVi C dX8_mend_68 lX8_252 mX3_search 51 (by omega) hE29 (by decide) rfl (tz_X3_search l G ad hJ22 c4 hc4 (by omega)) ⟨by decide, by decide⟩ rfl (Nat.le_of_ble_eq_true rfl) ⟨Nat.zero_le _, Nat.zero_le _⟩ (fun r25 E26 hp27 => ?_)
        obtain ⟨hp27, hJ28⟩ := hp27
        refine v_istore (lv' := [(0, .ref (ad 0)), (1, .int x), (2, .int y), (3, .int z), (4, .int u), (5, .int v), (6, .ref (ad c4)), (7, .int r25)]) C [1, 2, 3, 4, 5, 6, 7, 0] dX8_mend_71 (by decide) rfl ?_
        refine v_iload C 7 dX8_mend_73 rfl ?_
        refine v_iconst (v := (-1)) C dX8_mend_75 (by decide) ?_
        refine b_icmp_ne C 84 dX8_mend_76 (by decide) (rfl : Int32.toInt r25 = _) (show ((-1) : Int32).toInt = (-1) by decide) (fun c30 => ?_) (fun c30 => ?_)
        · refine v_iload C 7 dX8_mend_84 rfl ?_
          exact v_ret C dX8_mend_86 rfl rfl ⟨(ti_any r25), hJ28⟩
        · refine v_bipush (v := (-6)) C dX8_mend_79 (by decide) ?_
          refine v_goto C 86 dX8_mend_81 (by decide) ?_
          exact v_ret C dX8_mend_86 rfl rfl ⟨(ti_any (-6)), hJ28⟩
      · refine b_if_ne C 35 dX8_mend_30 (by decide) (show (0 : Int32).toInt = 0 by decide) (fun c31 => absurd c31 (by decide)) (fun c31 => ?_)
        refine v_iconst (v := (-1)) C dX8_mend_33 (by decide) ?_
        exact v_ret C dX8_mend_34 rfl rfl ⟨(ti_any (-1)), hJ⟩

