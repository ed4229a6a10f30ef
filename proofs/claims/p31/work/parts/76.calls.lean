set_option maxRecDepth 20000 in
theorem t_X0_weekdayOf (l : Launch) (G : Gl) (ad : Nat → Nat) {k : Nat} {E0 E : Nat → va_E} (hJ : J8 G ad k E0 E) (x : Int32) : CtI l G yX0_weekdayOf cX0_weekdayOf 2 .int 2 43 (98 + 9 * k) ad E [.ref (ad 1), .int x] (fun r E' => ((-2147483648 : Int) ≤ r.toInt ∧ r.toInt ≤ 2147483647) ∧ E = E') := by
  refine CtI.of (by decide) (Nat.le_of_ble_eq_true rfl) (fun X A C => ?_)
  refine v_sub (lv' := [(0, .ref (ad 1)), (1, .int x)]) [0, 1] rfl ?_
  have hk5 := hJ.1
  refine v_iload_n C 1 dX0_weekdayOf_0 rfl rfl ?_
  refine v_aload_n C 0 dX0_weekdayOf_1 rfl rfl ?_
  obtain ⟨ic1, md1, ms1, ld1, ys1, hC11, hC21, hC31, hC41, hC51, hCP1, hCF1⟩ := hJ.cal
  have hCl1 := cal_b hCP1
  have hCy1 := cal_y hCP1
  refine v_geti (v := ic1 8) C 1 dX0_weekdayOf_2 fX0_37 (by omega) hC11 rfl rfl ?_
  refine v_iadd C dX0_weekdayOf_5 ?_
  refine v_top (fun x2 _ => ?_)
  refine v_aload_n C 0 dX0_weekdayOf_6 rfl rfl ?_
  refine v_geti (v := ic1 7) C 1 dX0_weekdayOf_7 fX0_34 (by omega) hC11 rfl rfl ?_
  refine v_cSNp C dX0_weekdayOf_10 (List.mem_of_getElem? (i := 0) rfl) mX8_rest (c_rest l G _ ad _ x2 (ic1 7)) ⟨by decide, by decide⟩ rfl (Nat.le_of_ble_eq_true rfl) ⟨Nat.zero_le _, Nat.zero_le _⟩ (fun r3 hp4 => ?_)
  have hr3r := rest_b hp4
  have hr3 : (0 : Int) ≤ r3.toInt ∧ r3.toInt ≤ 9 := by omega
  exact v_ret C dX0_weekdayOf_13 rfl rfl ⟨(ti_any r3), rfl⟩

set_option maxRecDepth 20000 in
theorem t_X0_nthWeekday (l : Launch) (G : Gl) (ad : Nat → Nat) {k : Nat} {E0 E : Nat → va_E} (hJ : J8 G ad k E0 E) (y : Int32) (hy : (0 : Int) ≤ y.toInt ∧ y.toInt ≤ 99) (x : Int32) (hx : (0 : Int) ≤ x.toInt ∧ x.toInt ≤ 11) (u : Int32) (v : Int32) : CtI l G yX0_nthWeekday cX0_nthWeekday 9 .int 3 64 (98 + 9 * k) ad E [.ref (ad 1), .int y, .int x, .int u, .int v] (fun r E' => ((-2147483648 : Int) ≤ r.toInt ∧ r.toInt ≤ 2147483647) ∧ E = E') := by
  refine CtI.of (by decide) (Nat.le_of_ble_eq_true rfl) (fun X A C => ?_)
  refine v_sub (lv' := [(0, .ref (ad 1)), (1, .int y), (2, .int x), (3, .int u), (4, .int v)]) [0, 1, 2, 3, 4] rfl ?_
  have hk5 := hJ.1
  refine v_aload_n C 0 dX0_nthWeekday_0 rfl rfl ?_
  refine v_iload_n C 1 dX0_nthWeekday_1 rfl rfl ?_
  refine v_iload_n C 2 dX0_nthWeekday_2 rfl rfl ?_
  obtain ⟨ic3, md3, ms3, ld3, ys3, hC13, hC23, hC33, hC43, hC53, hCP3, hCF3⟩ := hJ.cal
  have hCl3 := cal_b hCP3
  have hCy3 := cal_y hCP3
  refine v_cVp C dX0_nthWeekday_3 lX0_58 mX0_firstDay 1 (by omega) hC13 (by decide) rfl (t_X0_firstDay l G ad hJ y (show (0 : Int) ≤ Int32.toInt y ∧ Int32.toInt y ≤ 99 by omega) x (show (0 : Int) ≤ Int32.toInt x ∧ Int32.toInt x ≤ 11 by omega)) ⟨by decide, by decide⟩ rfl (Nat.le_of_ble_eq_true rfl) ⟨Nat.zero_le _, Nat.zero_le _⟩ (fun r1 hp2 => ?_)
  refine v_istore (lv' := [(0, .ref (ad 1)), (1, .int y), (2, .int x), (3, .int u), (4, .int v), (5, .int r1)]) C [1, 2, 3, 4, 5, 0] dX0_nthWeekday_6 (by decide) rfl ?_
  refine v_aload_n C 0 dX0_nthWeekday_8 rfl rfl ?_
  refine v_iload_n C 1 dX0_nthWeekday_9 rfl rfl ?_
  refine v_iload_n C 2 dX0_nthWeekday_10 rfl rfl ?_
  refine v_cVp C dX0_nthWeekday_11 lX0_61 mX0_daysIn 1 (by omega) hC13 (by decide) rfl (t_X0_daysIn l G ad hJ y (show (0 : Int) ≤ Int32.toInt y ∧ Int32.toInt y ≤ 99 by omega) x (show (0 : Int) ≤ Int32.toInt x ∧ Int32.toInt x ≤ 11 by omega)) ⟨by decide, by decide⟩ rfl (Nat.le_of_ble_eq_true rfl) ⟨Nat.zero_le _, Nat.zero_le _⟩ (fun r4 hp5 => ?_)
  refine v_istore (lv' := [(0, .ref (ad 1)), (1, .int y), (2, .int x), (3, .int u), (4, .int v), (5, .int r1), (6, .int r4)]) C [1, 2, 3, 4, 5, 6, 0] dX0_nthWeekday_14 (by decide) rfl ?_
  refine v_iconst (v := 1) C dX0_nthWeekday_16 (by decide) ?_
  refine v_aload_n C 0 dX0_nthWeekday_17 rfl rfl ?_
  refine v_geti (v := ic3 7) C 1 dX0_nthWeekday_18 fX0_34 (by omega) hC13 rfl rfl ?_
  refine v_mmax C dX0_nthWeekday_21 lX0_68 mJ9_max_7cf53.2.2.1 mJ9_max_7cf53.2.1 mJ9_max_7cf53.1 ⟨by decide, Nat.le_of_ble_eq_true rfl⟩ ⟨Nat.zero_le _, Nat.zero_le _⟩ ?_
  refine v_top (fun x6 ex6 => ?_)
  have hx6 : 1 ≤ x6.toInt ∧ (ic3 7).toInt ≤ x6.toInt ∧ (x6.toInt = 1 ∨ x6.toInt = (ic3 7).toInt) := by rw [ex6]; exact mmax_b (show (1 : Int32).toInt = 1 by decide) (rfl : Int32.toInt (ic3 7) = _)
  refine v_istore (lv' := [(0, .ref (ad 1)), (1, .int y), (2, .int x), (3, .int u), (4, .int v), (5, .int r1), (6, .int r4), (7, .int x6)]) C [1, 2, 3, 4, 5, 6, 7, 0] dX0_nthWeekday_24 (by decide) rfl ?_
  refine v_iload_n C 3 dX0_nthWeekday_26 rfl rfl ?_
  refine v_aload_n C 0 dX0_nthWeekday_27 rfl rfl ?_
  refine v_iload C 5 dX0_nthWeekday_28 rfl ?_
  refine v_cVp C dX0_nthWeekday_30 lX0_73 mX0_weekdayOf 1 (by omega) hC13 (by decide) rfl (t_X0_weekdayOf l G ad hJ r1) ⟨by decide, by decide⟩ rfl (Nat.le_of_ble_eq_true rfl) ⟨Nat.zero_le _, Nat.zero_le _⟩ (fun r7 hp8 => ?_)
  refine v_isub C dX0_nthWeekday_33 ?_
  refine v_top (fun x9 _ => ?_)
  refine v_iload C 7 dX0_nthWeekday_34 rfl ?_
  refine v_cSNp C dX0_nthWeekday_36 (List.mem_of_getElem? (i := 0) rfl) mX8_rest (c_rest l G _ ad _ x9 x6) ⟨by decide, by decide⟩ rfl (Nat.le_of_ble_eq_true rfl) ⟨Nat.zero_le _, Nat.zero_le _⟩ (fun r10 hp11 => ?_)
  have hr10r := rest_b hp11
  have hr10 : (0 : Int) ≤ r10.toInt ∧ r10.toInt ≤ 9 := by omega
  refine v_istore (lv' := [(0, .ref (ad 1)), (1, .int y), (2, .int x), (3, .int u), (4, .int v), (5, .int r1), (6, .int r4), (7, .int x6), (8, .int r10)]) C [1, 2, 3, 4, 5, 6, 7, 8, 0] dX0_nthWeekday_39 (by decide) rfl ?_
  refine v_iload C 4 dX0_nthWeekday_41 rfl ?_
  refine v_iconst (v := 4) C dX0_nthWeekday_43 (by decide) ?_
  refine b_icmp_ge C 60 dX0_nthWeekday_44 (by decide) (rfl : Int32.toInt v = _) (show (4 : Int32).toInt = 4 by decide) (fun c12 => ?_) (fun c12 => ?_)
  · refine v_iload C 8 dX0_nthWeekday_60 rfl ?_
    refine v_iload C 6 dX0_nthWeekday_62 rfl ?_
    refine b_icmp_ge C 85 dX0_nthWeekday_64 (by decide) (rfl : Int32.toInt r10 = _) (rfl : Int32.toInt r4 = _) (fun c13 => ?_) (fun c13 => ?_)
    · refine v_iload C 8 dX0_nthWeekday_85 rfl ?_
      refine v_iload C 6 dX0_nthWeekday_87 rfl ?_
      refine b_icmp_ge C 100 dX0_nthWeekday_89 (by decide) (rfl : Int32.toInt r10 = _) (rfl : Int32.toInt r4 = _) (fun c14 => ?_) (fun c14 => ?_)
      · refine v_iconst (v := (-1)) C dX0_nthWeekday_100 (by decide) ?_
        exact v_ret C dX0_nthWeekday_101 rfl rfl ⟨(ti_any (-1)), rfl⟩
      · refine v_iload C 5 dX0_nthWeekday_92 rfl ?_
        refine v_iload C 8 dX0_nthWeekday_94 rfl ?_
        refine v_iadd C dX0_nthWeekday_96 ?_
        refine v_top (fun x15 _ => ?_)
        refine v_goto C 101 dX0_nthWeekday_97 (by decide) ?_
        exact v_ret C dX0_nthWeekday_101 rfl rfl ⟨(ti_any x15), rfl⟩
    · refine v_iload C 8 dX0_nthWeekday_67 rfl ?_
      refine v_iload C 6 dX0_nthWeekday_69 rfl ?_
      refine v_iconst (v := 1) C dX0_nthWeekday_71 (by decide) ?_
      refine v_isub C dX0_nthWeekday_72 ?_
      have := ti_any r4
      refine v_top (fun x16 ex16 => ?_)
      have hx16 : x16.toInt = (r4.toInt - 1) := by rw [ex16]; exact ti_sub (rfl : Int32.toInt r4 = _) (show (1 : Int32).toInt = 1 by decide) (by omega) (by omega)
      refine v_iload C 8 dX0_nthWeekday_73 rfl ?_
      refine v_isub C dX0_nthWeekday_75 ?_
      refine v_top (fun x17 ex17 => ?_)
      have hx17 : x17.toInt = ((r4.toInt - 1) - r10.toInt) := by rw [ex17]; exact ti_sub hx16 (rfl : Int32.toInt r10 = _) (by omega) (by omega)
      refine v_iload C 7 dX0_nthWeekday_76 rfl ?_
      refine v_idiv C dX0_nthWeekday_78 (ti_ne (rfl : Int32.toInt x6 = _) (show (0 : Int32).toInt = 0 by decide) (by omega)) ?_
      refine v_top (fun x18 _ => ?_)
      refine v_iload C 7 dX0_nthWeekday_79 rfl ?_
      refine v_imul C dX0_nthWeekday_81 ?_
      refine v_top (fun x19 _ => ?_)
      refine v_iadd C dX0_nthWeekday_82 ?_
      refine v_top (fun x20 _ => ?_)
      refine v_istore (lv' := [(0, .ref (ad 1)), (1, .int y), (2, .int x), (3, .int u), (4, .int v), (5, .int r1), (6, .int r4), (7, .int x6), (8, .int x20)]) C [1, 2, 3, 4, 5, 6, 7, 8, 0] dX0_nthWeekday_83 (by decide) rfl ?_
      refine v_iload C 8 dX0_nthWeekday_85 rfl ?_
      refine v_iload C 6 dX0_nthWeekday_87 rfl ?_
      refine b_icmp_ge C 100 dX0_nthWeekday_89 (by decide) (rfl : Int32.toInt x20 = _) (rfl : Int32.toInt r4 = _) (fun c21 => ?_) (fun c21 => ?_)
      · refine v_iconst (v := (-1)) C dX0_nthWeekday_100 (by decide) ?_
        exact v_ret C dX0_nthWeekday_101 rfl rfl ⟨(ti_any (-1)), rfl⟩
      · refine v_iload C 5 dX0_nthWeekday_92 rfl ?_
        refine v_iload C 8 dX0_nthWeekday_94 rfl ?_
        refine v_iadd C dX0_nthWeekday_96 ?_
        refine v_top (fun x22 _ => ?_)
        refine v_goto C 101 dX0_nthWeekday_97 (by decide) ?_
        exact v_ret C dX0_nthWeekday_101 rfl rfl ⟨(ti_any x22), rfl⟩
  · refine v_iload C 8 dX0_nthWeekday_47 rfl ?_
    refine v_iload C 4 dX0_nthWeekday_49 rfl ?_
    refine v_iload C 7 dX0_nthWeekday_51 rfl ?_
    refine v_imul C dX0_nthWeekday_53 ?_
    refine v_top (fun x23 _ => ?_)
    refine v_iadd C dX0_nthWeekday_54 ?_
    refine v_top (fun x24 _ => ?_)
    refine v_istore (lv' := [(0, .ref (ad 1)), (1, .int y), (2, .int x), (3, .int u), (4, .int v), (5, .int r1), (6, .int r4), (7, .int x6), (8, .int x24)]) C [1, 2, 3, 4, 5, 6, 7, 8, 0] dX0_nthWeekday_55 (by decide) rfl ?_
    refine v_goto C 85 dX0_nthWeekday_57 (by decide) ?_
    refine v_iload C 8 dX0_nthWeekday_85 rfl ?_
    refine v_iload C 6 dX0_nthWeekday_87 rfl ?_
    refine b_icmp_ge C 100 dX0_nthWeekday_89 (by decide) (rfl : Int32.toInt x24 = _) (rfl : Int32.toInt r4 = _) (fun c25 => ?_) (fun c25 => ?_)
    · refine v_iconst (v := (-1)) C dX0_nthWeekday_100 (by decide) ?_
      exact v_ret C dX0_nthWeekday_101 rfl rfl ⟨(ti_any (-1)), rfl⟩
    · refine v_iload C 5 dX0_nthWeekday_92 rfl ?_
      refine v_iload C 8 dX0_nthWeekday_94 rfl ?_
      refine v_iadd C dX0_nthWeekday_96 ?_
      refine v_top (fun x26 _ => ?_)
      refine v_goto C 101 dX0_nthWeekday_97 (by decide) ?_
      exact v_ret C dX0_nthWeekday_101 rfl rfl ⟨(ti_any x26), rfl⟩

set_option maxRecDepth 20000 in
theorem t_X8_isRange (l : Launch) (G : Gl) (ad : Nat → Nat) {k : Nat} {E0 E : Nat → va_E} (hJ : J8 G ad k E0 E) (x : Int32) (y : Int32) : CtI l G yX8_isRange cX8_isRange 2 .boolean 1 20 (98 + 9 * k) ad E [.int x, .int y] (fun r E' => (r = 0 ∨ r = 1) ∧ E = E') := by
  refine CtI.of (by decide) (Nat.le_of_ble_eq_true rfl) (fun X A C => ?_)
  refine v_sub (lv' := [(0, .int x), (1, .int y)]) [0, 1] rfl ?_
  have hk5 := hJ.1
  refine v_iload_n C 0 dX8_isRange_0 rfl rfl ?_
  refine v_cSp C dX8_isRange_1 lX8_162 mX8_isMoment (c_isMoment l G _ ad _ x) ⟨by decide, by decide⟩ rfl (Nat.le_of_ble_eq_true rfl) ⟨Nat.zero_le _, Nat.zero_le _⟩ (fun r1 hp2 => ?_)
  rcases hp2 with ⟨rfl, hp2⟩ | ⟨rfl, hp2⟩
  · refine b_if_eq C 31 dX8_isRange_4 (by decide) (show (1 : Int32).toInt = 1 by decide) (fun c3 => absurd c3 (by decide)) (fun c3 => ?_)
    refine v_iload_n C 1 dX8_isRange_7 rfl rfl ?_
    refine v_cSp C dX8_isRange_8 lX8_162 mX8_isMoment (c_isMoment l G _ ad _ y) ⟨by decide, by decide⟩ rfl (Nat.le_of_ble_eq_true rfl) ⟨Nat.zero_le _, Nat.zero_le _⟩ (fun r4 hp5 => ?_)
    rcases hp5 with ⟨rfl, hp5⟩ | ⟨rfl, hp5⟩
    · refine b_if_eq C 31 dX8_isRange_11 (by decide) (show (1 : Int32).toInt = 1 by decide) (fun c6 => absurd c6 (by decide)) (fun c6 => ?_)
      refine v_iload_n C 0 dX8_isRange_14 rfl rfl ?_
      refine v_iload_n C 1 dX8_isRange_15 rfl rfl ?_
      refine b_icmp_gt C 31 dX8_isRange_16 (by decide) (rfl : Int32.toInt x = _) (rfl : Int32.toInt y = _) (fun c7 => ?_) (fun c7 => ?_)
      · refine v_iconst (v := 0) C dX8_isRange_31 (by decide) ?_
        exact v_ret C dX8_isRange_32 rfl rfl ⟨Or.inl rfl, rfl⟩
      · refine v_iload_n C 1 dX8_isRange_19 rfl rfl ?_
        refine v_iload_n C 0 dX8_isRange_20 rfl rfl ?_
        refine v_isub C dX8_isRange_21 ?_
        refine v_top (fun x8 ex8 => ?_)
        have hx8 : x8.toInt = (y.toInt - x.toInt) := by rw [ex8]; exact ti_sub (rfl : Int32.toInt y = _) (rfl : Int32.toInt x = _) (by omega) (by omega)
        refine v_ldc C dX8_isRange_22 kX8_243 ?_
        refine b_icmp_gt C 31 dX8_isRange_24 (by decide) hx8 (show (2000000 : Int32).toInt = 2000000 by decide) (fun c9 => ?_) (fun c9 => ?_)
        · refine v_iconst (v := 0) C dX8_isRange_31 (by decide) ?_
          exact v_ret C dX8_isRange_32 rfl rfl ⟨Or.inl rfl, rfl⟩
        · refine v_iconst (v := 1) C dX8_isRange_27 (by decide) ?_
          refine v_goto C 32 dX8_isRange_28 (by decide) ?_
          exact v_ret C dX8_isRange_32 rfl rfl ⟨Or.inr rfl, rfl⟩
    · refine b_if_eq C 31 dX8_isRange_11 (by decide) (show (0 : Int32).toInt = 0 by decide) (fun c10 => ?_) (fun c10 => absurd c10 (by decide))
      refine v_iconst (v := 0) C dX8_isRange_31 (by decide) ?_
      exact v_ret C dX8_isRange_32 rfl rfl ⟨Or.inl rfl, rfl⟩
  · refine b_if_eq C 31 dX8_isRange_4 (by decide) (show (0 : Int32).toInt = 0 by decide) (fun c11 => ?_) (fun c11 => absurd c11 (by decide))
    refine v_iconst (v := 0) C dX8_isRange_31 (by decide) ?_
    exact v_ret C dX8_isRange_32 rfl rfl ⟨Or.inl rfl, rfl⟩

set_option maxRecDepth 20000 in
theorem t_X8_isReach (l : Launch) (G : Gl) (ad : Nat → Nat) {k : Nat} {E0 E : Nat → va_E} (hJ : J8 G ad k E0 E) (x : Int32) (y : Int32) (z : Int32) : CtI l G yX8_isReach cX8_isReach 3 .boolean 1 20 (98 + 9 * k) ad E [.int x, .int y, .int z] (fun r E' => (r = 0 ∨ r = 1) ∧ E = E') := by
  refine CtI.of (by decide) (Nat.le_of_ble_eq_true rfl) (fun X A C => ?_)
  refine v_sub (lv' := [(0, .int x), (1, .int y), (2, .int z)]) [0, 1, 2] rfl ?_
  have hk5 := hJ.1
  refine v_iload_n C 0 dX8_isReach_0 rfl rfl ?_
  refine v_cSp C dX8_isReach_1 lX8_162 mX8_isMoment (c_isMoment l G _ ad _ x) ⟨by decide, by decide⟩ rfl (Nat.le_of_ble_eq_true rfl) ⟨Nat.zero_le _, Nat.zero_le _⟩ (fun r1 hp2 => ?_)
  rcases hp2 with ⟨rfl, hp2⟩ | ⟨rfl, hp2⟩
  · refine b_if_eq C 29 dX8_isReach_4 (by decide) (show (1 : Int32).toInt = 1 by decide) (fun c3 => absurd c3 (by decide)) (fun c3 => ?_)
    refine v_iload_n C 1 dX8_isReach_7 rfl rfl ?_
    refine b_if_lt C 29 dX8_isReach_8 (by decide) (rfl : Int32.toInt y = _) (fun c4 => ?_) (fun c4 => ?_)
    · refine v_iconst (v := 0) C dX8_isReach_29 (by decide) ?_
      exact v_ret C dX8_isReach_30 rfl rfl ⟨Or.inl rfl, rfl⟩
    · refine v_iload_n C 1 dX8_isReach_11 rfl rfl ?_
      refine v_iload_n C 2 dX8_isReach_12 rfl rfl ?_
      refine b_icmp_gt C 29 dX8_isReach_13 (by decide) (rfl : Int32.toInt y = _) (rfl : Int32.toInt z = _) (fun c5 => ?_) (fun c5 => ?_)
      · refine v_iconst (v := 0) C dX8_isReach_29 (by decide) ?_
        exact v_ret C dX8_isReach_30 rfl rfl ⟨Or.inl rfl, rfl⟩
      · refine v_iload_n C 0 dX8_isReach_16 rfl rfl ?_
        refine v_iload_n C 1 dX8_isReach_17 rfl rfl ?_
        refine v_iadd C dX8_isReach_18 ?_
        refine v_top (fun x6 _ => ?_)
        refine v_cSp C dX8_isReach_19 lX8_162 mX8_isMoment (c_isMoment l G _ ad _ x6) ⟨by decide, by decide⟩ rfl (Nat.le_of_ble_eq_true rfl) ⟨Nat.zero_le _, Nat.zero_le _⟩ (fun r7 hp8 => ?_)
        rcases hp8 with ⟨rfl, hp8⟩ | ⟨rfl, hp8⟩
        · refine b_if_eq C 29 dX8_isReach_22 (by decide) (show (1 : Int32).toInt = 1 by decide) (fun c9 => absurd c9 (by decide)) (fun c9 => ?_)
          refine v_iconst (v := 1) C dX8_isReach_25 (by decide) ?_
          refine v_goto C 30 dX8_isReach_26 (by decide) ?_
          exact v_ret C dX8_isReach_30 rfl rfl ⟨Or.inr rfl, rfl⟩
        · refine b_if_eq C 29 dX8_isReach_22 (by decide) (show (0 : Int32).toInt = 0 by decide) (fun c10 => ?_) (fun c10 => absurd c10 (by decide))
          refine v_iconst (v := 0) C dX8_isReach_29 (by decide) ?_
          exact v_ret C dX8_isReach_30 rfl rfl ⟨Or.inl rfl, rfl⟩
  · refine b_if_eq C 29 dX8_isReach_4 (by decide) (show (0 : Int32).toInt = 0 by decide) (fun c11 => ?_) (fun c11 => absurd c11 (by decide))
    refine v_iconst (v := 0) C dX8_isReach_29 (by decide) ?_
    exact v_ret C dX8_isReach_30 rfl rfl ⟨Or.inl rfl, rfl⟩

set_option maxRecDepth 20000 in
theorem t_X8_isLaw (l : Launch) (G : Gl) (ad : Nat → Nat) {k : Nat} {E0 E : Nat → va_E} (hJ : J8 G ad k E0 E) (x : Int32) (y : Int32) : CtI l G yX8_isLaw cX8_isLaw 5 .boolean 1 20 (98 + 9 * k) ad E [.ref (ad 0), .int x, .int y] (fun r E' => (r = 0 ∨ r = 1) ∧ E = E') := by
  refine CtI.of (by decide) (Nat.le_of_ble_eq_true rfl) (fun X A C => ?_)
  refine v_sub (lv' := [(0, .ref (ad 0)), (1, .int x), (2, .int y)]) [0, 1, 2] rfl ?_
  have hk5 := hJ.1
  refine v_iload_n C 1 dX8_isLaw_0 rfl rfl ?_
  refine v_bipush (v := 10) C dX8_isLaw_1 (by decide) ?_
  refine v_irem C dX8_isLaw_3 (by decide) ?_
  refine v_top (fun x1 _ => ?_)
  refine v_istore_n (lv' := [(0, .ref (ad 0)), (1, .int x), (2, .int y), (3, .int x1)]) C [1, 2, 3, 0] dX8_isLaw_4 rfl (by decide) rfl ?_
  refine v_iload_n C 1 dX8_isLaw_5 rfl rfl ?_
  refine v_bipush (v := 10) C dX8_isLaw_6 (by decide) ?_
  refine v_idiv C dX8_isLaw_8 (by decide) ?_
  refine v_top (fun x2 ex2 => ?_)
  have hx2 : (-214748364 : Int) ≤ x2.toInt ∧ x2.toInt ≤ 214748364 := by rw [ex2]; exact ti_tdb (show (10 : Int32).toInt = 10 by decide) (by decide)
  refine v_istore (lv' := [(0, .ref (ad 0)), (1, .int x), (2, .int y), (3, .int x1), (4, .int x2)]) C [1, 2, 3, 4, 0] dX8_isLaw_9 (by decide) rfl ?_
  refine v_iload_n C 1 dX8_isLaw_11 rfl rfl ?_
  refine b_if_lt C 20 dX8_isLaw_12 (by decide) (rfl : Int32.toInt x = _) (fun c3 => ?_) (fun c3 => ?_)
  · refine v_iconst (v := 0) C dX8_isLaw_20 (by decide) ?_
    exact v_ret C dX8_isLaw_21 rfl rfl ⟨Or.inl rfl, rfl⟩
  · refine v_iload_n C 3 dX8_isLaw_15 rfl rfl ?_
    refine v_iconst (v := 5) C dX8_isLaw_16 (by decide) ?_
    refine b_icmp_lt C 22 dX8_isLaw_17 (by decide) (rfl : Int32.toInt x1 = _) (show (5 : Int32).toInt = 5 by decide) (fun c4 => ?_) (fun c4 => ?_)
    · refine v_iload_n C 3 dX8_isLaw_22 rfl rfl ?_
      have q5v : Int32.toInt x1 = x1.toInt := (rfl : Int32.toInt x1 = _)
      rcases (show x1.toInt = 0 ∨ x1.toInt = 1 ∨ x1.toInt = 2 ∨ x1.toInt = 3 ∨ (x1.toInt < 0 ∨ 3 < x1.toInt) by omega) with q5 | q5 | q5 | q5 | q5
      · refine v_tableIn (off := 76) C 99 dX8_isLaw_23 (by omega) (by omega) (by rw [q5v, q5]; rfl) (by decide) ?_
        refine v_iload C 4 dX8_isLaw_99 rfl ?_
        refine b_if_ne C 108 dX8_isLaw_101 (by decide) (rfl : Int32.toInt x2 = _) (fun c6 => ?_) (fun c6 => ?_)
        · refine v_iconst (v := 0) C dX8_isLaw_108 (by decide) ?_
          exact v_ret C dX8_isLaw_109 rfl rfl ⟨Or.inl rfl, rfl⟩
        · refine v_iconst (v := 1) C dX8_isLaw_104 (by decide) ?_
          refine v_goto C 109 dX8_isLaw_105 (by decide) ?_
          exact v_ret C dX8_isLaw_109 rfl rfl ⟨Or.inr rfl, rfl⟩
      · refine v_tableIn (off := 29) C 52 dX8_isLaw_23 (by omega) (by omega) (by rw [q5v, q5]; rfl) (by decide) ?_
        refine v_iload C 4 dX8_isLaw_52 rfl ?_
        refine v_aload_n C 0 dX8_isLaw_54 rfl rfl ?_
        obtain ⟨io7, hE7⟩ := hJ.c0
        refine v_getr C 0 dX8_isLaw_55 fX8_19 (by omega) hE7 rfl rfl ?_
        obtain ⟨i8, hE8, hb8⟩ := hJ.2.2.getO (b := 6) (by omega) rfl
        refine v_geti (v := i8 1) C 6 dX8_isLaw_58 fX8_64 (by omega) hE8 rfl rfl ?_
        have hi8_1 : (k : Int) ≤ (i8 1).toInt ∧ (i8 1).toInt ≤ (k : Int) := hb8 1
        refine b_icmp_ge C 75 dX8_isLaw_61 (by decide) (rfl : Int32.toInt x2 = _) (rfl : Int32.toInt (i8 1) = _) (fun c9 => ?_) (fun c9 => ?_)
        · refine v_iconst (v := 0) C dX8_isLaw_75 (by decide) ?_
          exact v_ret C dX8_isLaw_76 rfl rfl ⟨Or.inl rfl, rfl⟩
        · refine v_iload_n C 2 dX8_isLaw_64 rfl rfl ?_
          refine v_cSp C dX8_isLaw_65 lX8_136 mX8_isMinute (c_isMinute l G _ ad _ y) ⟨by decide, by decide⟩ rfl (Nat.le_of_ble_eq_true rfl) ⟨Nat.zero_le _, Nat.zero_le _⟩ (fun r10 hp11 => ?_)
          rcases hp11 with ⟨rfl, hp11⟩ | ⟨rfl, hp11⟩
          · refine b_if_eq C 75 dX8_isLaw_68 (by decide) (show (1 : Int32).toInt = 1 by decide) (fun c12 => absurd c12 (by decide)) (fun c12 => ?_)
            refine v_iconst (v := 1) C dX8_isLaw_71 (by decide) ?_
            refine v_goto C 76 dX8_isLaw_72 (by decide) ?_
            exact v_ret C dX8_isLaw_76 rfl rfl ⟨Or.inr rfl, rfl⟩
          · refine b_if_eq C 75 dX8_isLaw_68 (by decide) (show (0 : Int32).toInt = 0 by decide) (fun c13 => ?_) (fun c13 => absurd c13 (by decide))
            refine v_iconst (v := 0) C dX8_isLaw_75 (by decide) ?_
            exact v_ret C dX8_isLaw_76 rfl rfl ⟨Or.inl rfl, rfl⟩
      · refine v_tableIn (off := 54) C 77 dX8_isLaw_23 (by omega) (by omega) (by rw [q5v, q5]; rfl) (by decide) ?_
        refine v_iload C 4 dX8_isLaw_77 rfl ?_
        refine v_aload_n C 0 dX8_isLaw_79 rfl rfl ?_
        obtain ⟨io14, hE14⟩ := hJ.c0
        refine v_getr C 0 dX8_isLaw_80 fX8_19 (by omega) hE14 rfl rfl ?_
        obtain ⟨i15, hE15, hb15⟩ := hJ.2.2.getO (b := 6) (by omega) rfl
        refine v_geti (v := i15 1) C 6 dX8_isLaw_83 fX8_64 (by omega) hE15 rfl rfl ?_
        have hi15_1 : (k : Int) ≤ (i15 1).toInt ∧ (i15 1).toInt ≤ (k : Int) := hb15 1
        refine b_icmp_ge C 97 dX8_isLaw_86 (by decide) (rfl : Int32.toInt x2 = _) (rfl : Int32.toInt (i15 1) = _) (fun c16 => ?_) (fun c16 => ?_)
        · refine v_iconst (v := 0) C dX8_isLaw_97 (by decide) ?_
          exact v_ret C dX8_isLaw_98 rfl rfl ⟨Or.inl rfl, rfl⟩
        · refine v_iload_n C 2 dX8_isLaw_89 rfl rfl ?_
          refine b_if_ne C 97 dX8_isLaw_90 (by decide) (rfl : Int32.toInt y = _) (fun c17 => ?_) (fun c17 => ?_)
          · refine v_iconst (v := 0) C dX8_isLaw_97 (by decide) ?_
            exact v_ret C dX8_isLaw_98 rfl rfl ⟨Or.inl rfl, rfl⟩
          · refine v_iconst (v := 1) C dX8_isLaw_93 (by decide) ?_
            refine v_goto C 98 dX8_isLaw_94 (by decide) ?_
            exact v_ret C dX8_isLaw_98 rfl rfl ⟨Or.inr rfl, rfl⟩
      · refine v_tableIn (off := 76) C 99 dX8_isLaw_23 (by omega) (by omega) (by rw [q5v, q5]; rfl) (by decide) ?_
        refine v_iload C 4 dX8_isLaw_99 rfl ?_
        refine b_if_ne C 108 dX8_isLaw_101 (by decide) (rfl : Int32.toInt x2 = _) (fun c18 => ?_) (fun c18 => ?_)
        · refine v_iconst (v := 0) C dX8_isLaw_108 (by decide) ?_
          exact v_ret C dX8_isLaw_109 rfl rfl ⟨Or.inl rfl, rfl⟩
        · refine v_iconst (v := 1) C dX8_isLaw_104 (by decide) ?_
          refine v_goto C 109 dX8_isLaw_105 (by decide) ?_
          exact v_ret C dX8_isLaw_109 rfl rfl ⟨Or.inr rfl, rfl⟩
      · refine v_tableOut C 110 dX8_isLaw_23 (by omega) (by decide) ?_
        refine v_iload C 4 dX8_isLaw_110 rfl ?_
        refine b_if_ne C 123 dX8_isLaw_112 (by decide) (rfl : Int32.toInt x2 = _) (fun c19 => ?_) (fun c19 => ?_)
        · refine v_iconst (v := 0) C dX8_isLaw_123 (by decide) ?_
          exact v_ret C dX8_isLaw_124 rfl rfl ⟨Or.inl rfl, rfl⟩
        · refine v_iload_n C 2 dX8_isLaw_115 rfl rfl ?_
          refine b_if_ne C 123 dX8_isLaw_116 (by decide) (rfl : Int32.toInt y = _) (fun c20 => ?_) (fun c20 => ?_)
          · refine v_iconst (v := 0) C dX8_isLaw_123 (by decide) ?_
            exact v_ret C dX8_isLaw_124 rfl rfl ⟨Or.inl rfl, rfl⟩
          · refine v_iconst (v := 1) C dX8_isLaw_119 (by decide) ?_
            refine v_goto C 124 dX8_isLaw_120 (by decide) ?_
            exact v_ret C dX8_isLaw_124 rfl rfl ⟨Or.inr rfl, rfl⟩
    · refine v_iconst (v := 0) C dX8_isLaw_20 (by decide) ?_
      exact v_ret C dX8_isLaw_21 rfl rfl ⟨Or.inl rfl, rfl⟩

set_option maxRecDepth 20000 in
theorem t_X8_programAt (l : Launch) (G : Gl) (ad : Nat → Nat) {k : Nat} {E0 E : Nat → va_E} (hJ : J8 G ad k E0 E) (x : Int32) : CtQ l G yX8_programAt cX8_programAt 2 (.object "OddHours$Program") 0 0 (98 + 9 * k) ad E [.ref (ad 0), .int x] (fun r E' => ((¬ ((0 : Int) ≤ x.toInt ∧ x.toInt < 6) ∧ r = none) ∨ ∃ i : Nat, (i : Int) = x.toInt ∧ i < 6 ∧ r = some (ad (9 + 6 * i))) ∧ E = E') := by
  refine CtQ.of (by decide) (Nat.le_of_ble_eq_true rfl) (fun X A C => ?_)
  refine v_sub (lv' := [(0, .ref (ad 0)), (1, .int x)]) [0, 1] rfl ?_
  have hk5 := hJ.1
  refine v_iload_n C 1 dX8_programAt_0 rfl rfl ?_
  refine b_if_lt C 19 dX8_programAt_1 (by decide) (rfl : Int32.toInt x = _) (fun c1 => ?_) (fun c1 => ?_)
  · refine v_null C dX8_programAt_19 ?_
    exact v_qret (v := none) C dX8_programAt_20 rfl ⟨Or.inl ⟨by omega, rfl⟩, rfl⟩
  · refine v_iload_n C 1 dX8_programAt_4 rfl rfl ?_
    refine v_bipush (v := 6) C dX8_programAt_5 (by decide) ?_
    refine b_icmp_ge C 19 dX8_programAt_7 (by decide) (rfl : Int32.toInt x = _) (show (6 : Int32).toInt = 6 by decide) (fun c2 => ?_) (fun c2 => ?_)
    · refine v_null C dX8_programAt_19 ?_
      exact v_qret (v := none) C dX8_programAt_20 rfl ⟨Or.inl ⟨by omega, rfl⟩, rfl⟩
    · refine v_aload_n C 0 dX8_programAt_10 rfl rfl ?_
      obtain ⟨io3, hE3⟩ := hJ.c0
      refine v_getr C 0 dX8_programAt_11 fX8_25 (by omega) hE3 rfl rfl ?_
      refine v_iload_n C 1 dX8_programAt_14 rfl rfl ?_
      obtain ⟨fp4, hE4, hz4⟩ := hJ.c8
      obtain ⟨c5, ec5⟩ : ∃ q : Nat, q = 9 + 6 * ((x.toInt).toNat) := ⟨_, rfl⟩
      have hc5 : PC c5 := by rw [ec5]; exact PC.p (by omega)
      have hc5l : c5 < 45 := by omega
      have hc5n := hc5.n
      refine v_aldP (v := some (ad c5)) C 8 dX8_programAt_15 (by omega) hE4 (ti_in (rfl : Int32.toInt x = _) (by omega) (by omega)) (by rw [ti_cl (rfl : Int32.toInt x = _), ec5]; exact hz4 ((x.toInt).toNat) (by omega)) ?_
      refine v_goto C 20 dX8_programAt_16 (by decide) ?_
      exact v_qret (v := some (ad c5)) C dX8_programAt_20 rfl ⟨Or.inr ⟨(x.toInt).toNat, by omega, by omega, by rw [ec5]⟩, rfl⟩

set_option maxRecDepth 20000 in
theorem t_X8_freshZone (l : Launch) (G : Gl) (ad : Nat → Nat) {k : Nat} {E0 E : Nat → va_E} (hJ : J8 G ad k E0 E) (x : Int32) : CtQ l G yX8_freshZone cX8_freshZone 3 (.object "OddHours$Zone") 3 73 (98 + 9 * k) ad E [.ref (ad 0), .int x] (fun r E' => ((¬ ((0 : Int) ≤ x.toInt ∧ x.toInt < (k : Int)) ∧ r = none) ∨ ∃ i : Nat, (i : Int) = x.toInt ∧ i < k ∧ r = some (ad (98 + 9 * i))) ∧ J8 G ad k E0 E') := by
  refine CtQ.of (by decide) (Nat.le_of_ble_eq_true rfl) (fun X A C => ?_)
  refine v_sub (lv' := [(0, .ref (ad 0)), (1, .int x)]) [0, 1] rfl ?_
  have hk5 := hJ.1
  refine v_aload_n C 0 dX8_freshZone_0 rfl rfl ?_
  obtain ⟨io1, hE1⟩ := hJ.c0
  refine v_getr C 0 dX8_freshZone_1 fX8_19 (by omega) hE1 rfl rfl ?_
  refine v_iload_n C 1 dX8_freshZone_4 rfl rfl ?_
  obtain ⟨i4, hE4, hb4⟩ := hJ.2.2.getO (b := 6) (by omega) rfl
  refine v_cVr C dX8_freshZone_5 lX8_132 mX7_at 6 (by omega) hE4 (by decide) rfl (t_X7_at l G ad hJ x) ⟨by decide, by decide⟩ rfl (Nat.le_of_ble_eq_true rfl) ⟨Nat.zero_le _, Nat.zero_le _⟩ (fun r2 hp3 => ?_)
  rcases hp3 with ⟨hno5, rfl⟩ | ⟨i5x, hi5, hk5, rfl⟩
  · refine v_astore_nN (lv' := [(0, .ref (ad 0)), (1, .int x), (2, .null)]) C [1, 2, 0] dX8_freshZone_8 rfl (by decide) rfl ?_
    refine v_aload_nN C 2 dX8_freshZone_9 rfl rfl ?_
    refine v_ifnullN C 21 dX8_freshZone_10 (by decide) ?_
    refine v_aload_nN C 2 dX8_freshZone_21 rfl rfl ?_
    exact v_qret (v := none) C dX8_freshZone_22 rfl ⟨Or.inl ⟨by omega, rfl⟩, hJ⟩
  · obtain ⟨b5, eb5⟩ : ∃ q : Nat, q = 98 + 9 * i5x := ⟨_, rfl⟩
    rw [← eb5]
    have hb5 : ZC k b5 := ⟨_, hk5, eb5⟩
    have hb5n := hb5.n
    refine v_astore_n (lv' := [(0, .ref (ad 0)), (1, .int x), (2, .ref (ad b5))]) C [1, 2, 0] dX8_freshZone_8 rfl (by decide) rfl ?_
    refine v_aload_n C 2 dX8_freshZone_9 rfl rfl ?_
    refine v_ifnull C dX8_freshZone_10 ?_
    refine v_aload_n C 2 dX8_freshZone_13 rfl rfl ?_
    refine v_aload_n C 0 dX8_freshZone_14 rfl rfl ?_
    refine v_geti (v := io1 7) C 0 dX8_freshZone_15 fX8_56 (by omega) hE1 rfl rfl ?_
    obtain ⟨i10, hE10, hb10⟩ := hJ.2.2.getO (b := b5) (by omega) hb5.t0
    refine v_cVv C dX8_freshZone_18 lX8_283 mX6_refresh b5 (by omega) hE10 (by decide) rfl (t_X6_refresh l G ad hJ b5 hb5 (io1 7)) ⟨by decide, by decide⟩ rfl (Nat.le_of_ble_eq_true rfl) ⟨Nat.zero_le _, Nat.zero_le _⟩ (fun E7 hJ9 => ?_)
    refine v_aload_n C 2 dX8_freshZone_21 rfl rfl ?_
    exact v_qret (v := some (ad b5)) C dX8_freshZone_22 rfl ⟨Or.inr ⟨i5x, by omega, by omega, by rw [eb5]⟩, hJ9⟩

set_option maxRecDepth 20000 in
theorem t_X8_gatherOdds (l : Launch) (G : Gl) (ad : Nat → Nat) {k : Nat} {E0 E : Nat → va_E} (hJ : J8 G ad k E0 E) (x : Int32) (y : Int32) : CtV l G yX8_gatherOdds cX8_gatherOdds 3 4 102 (98 + 9 * k) ad E [.ref (ad 0), .int x, .int y] (fun E' => J8 G ad k E0 E') := by
  refine CtV.of (by decide) (Nat.le_of_ble_eq_true rfl) (fun X A C => ?_)
  refine v_sub (lv' := [(0, .ref (ad 0)), (1, .int x), (2, .int y)]) [0, 1, 2] rfl ?_
  have hk5 := hJ.1
  refine v_aload_n C 0 dX8_gatherOdds_0 rfl rfl ?_
  obtain ⟨io1, hE1⟩ := hJ.c0
  refine v_getr C 0 dX8_gatherOdds_1 fX8_19 (by omega) hE1 rfl rfl ?_
  refine v_aload_n C 0 dX8_gatherOdds_4 rfl rfl ?_
  refine v_geti (v := io1 7) C 0 dX8_gatherOdds_5 fX8_56 (by omega) hE1 rfl rfl ?_
  obtain ⟨i6, hE6, hb6⟩ := hJ.2.2.getO (b := 6) (by omega) rfl
  refine v_cVv C dX8_gatherOdds_8 lX8_205 mX7_refresh 6 (by omega) hE6 (by decide) rfl (t_X7_refresh l G ad hJ (io1 7)) ⟨by decide, by decide⟩ rfl (Nat.le_of_ble_eq_true rfl) ⟨Nat.zero_le _, Nat.zero_le _⟩ (fun E3 hJ5 => ?_)
  refine v_aload_n C 0 dX8_gatherOdds_11 rfl rfl ?_
  obtain ⟨io7, hE7⟩ := hJ5.c0
  refine v_getr C 0 dX8_gatherOdds_12 fX8_33 (by omega) hE7 rfl rfl ?_
  refine v_iload_n C 1 dX8_gatherOdds_15 rfl rfl ?_
  refine v_iload_n C 2 dX8_gatherOdds_16 rfl rfl ?_
  refine v_aload_n C 0 dX8_gatherOdds_17 rfl rfl ?_
  refine v_getr C 0 dX8_gatherOdds_18 fX8_19 (by omega) hE7 rfl rfl ?_
  refine v_aload_n C 0 dX8_gatherOdds_21 rfl rfl ?_
  refine v_getr C 0 dX8_gatherOdds_22 fX8_12 (by omega) hE7 rfl rfl ?_
  obtain ⟨ic10, md10, ms10, ld10, ys10, hC110, hC210, hC310, hC410, hC510, hCP10, hCF10⟩ := hJ5.cal
  have hCl10 := cal_b hCP10
  have hCy10 := cal_y hCP10
  refine v_cVp C dX8_gatherOdds_25 lX8_280 mX0_days 1 (by omega) hC110 (by decide) rfl (c_days l G _ ad _ (by omega) hC110 hC210 hC310 hC410 hC510 hCP10 hCF10  ) ⟨by decide, by decide⟩ rfl (Nat.le_of_ble_eq_true rfl) ⟨Nat.zero_le _, Nat.zero_le _⟩ (fun r8 hp9 => ?_)
  have hr8 : (0 : Int) ≤ r8.toInt ∧ r8.toInt ≤ 48100 := by have q := cal_y hCP10; rw [hp9]; omega
  obtain ⟨i15, hE15, hb15⟩ := hJ5.2.2.getO (b := 45) (by omega) rfl
  refine v_cVv C dX8_gatherOdds_28 lX8_284 mX4_gather 45 (by omega) hE15 (by decide) rfl (t_X4_gather l G ad hJ5 x y r8) ⟨by decide, by decide⟩ rfl (Nat.le_of_ble_eq_true rfl) ⟨Nat.zero_le _, Nat.zero_le _⟩ (fun E12 hJ14 => ?_)
  exact v_vret C dX8_gatherOdds_31 rfl hJ14

set_option maxRecDepth 20000 in
theorem t_X8_changes (l : Launch) (G : Gl) (ad : Nat → Nat) {k : Nat} {E0 E : Nat → va_E} (hJ : J8 G ad k E0 E) (x : Int32) : CtI l G yX8_changes cX8_changes 3 .int 4 95 (98 + 9 * k) ad E [.ref (ad 0), .int x] (fun r E' => ((-2147483648 : Int) ≤ r.toInt ∧ r.toInt ≤ 2147483647) ∧ J8 G ad k E0 E') := by
  refine CtI.of (by decide) (Nat.le_of_ble_eq_true rfl) (fun X A C => ?_)
  refine v_sub (lv' := [(0, .ref (ad 0)), (1, .int x)]) [0, 1] rfl ?_
  have hk5 := hJ.1
  refine v_aload_n C 0 dX8_changes_0 rfl rfl ?_
  refine v_iload_n C 1 dX8_changes_1 rfl rfl ?_
  obtain ⟨io5, hE5⟩ := hJ.c0
  refine v_cVq C dX8_changes_2 lX8_153 mX8_freshZone 0 (by omega) hE5 (by decide) rfl (t_X8_freshZone l G ad hJ x) ⟨by decide, by decide⟩ rfl (Nat.le_of_ble_eq_true rfl) ⟨Nat.zero_le _, Nat.zero_le _⟩ (fun r1 E3 hp2 => ?_)
  obtain ⟨hp2, hJ4⟩ := hp2
  rcases hp2 with ⟨hno6, rfl⟩ | ⟨i6x, hi6, hk6, rfl⟩
  · refine v_astore_nN (lv' := [(0, .ref (ad 0)), (1, .int x), (2, .null)]) C [1, 2, 0] dX8_changes_5 rfl (by decide) rfl ?_
    refine v_aload_nN C 2 dX8_changes_6 rfl rfl ?_
    refine v_ifnonnullN C dX8_changes_7 ?_
    refine v_iconst (v := (-1)) C dX8_changes_10 (by decide) ?_
    refine v_goto C 18 dX8_changes_11 (by decide) ?_
    exact v_ret C dX8_changes_18 rfl rfl ⟨(ti_any (-1)), hJ4⟩
  · obtain ⟨b6, eb6⟩ : ∃ q : Nat, q = 98 + 9 * i6x := ⟨_, rfl⟩
    rw [← eb6]
    have hb6 : ZC k b6 := ⟨_, hk6, eb6⟩
    have hb6n := hb6.n
    refine v_astore_n (lv' := [(0, .ref (ad 0)), (1, .int x), (2, .ref (ad b6))]) C [1, 2, 0] dX8_changes_5 rfl (by decide) rfl ?_
    refine v_aload_n C 2 dX8_changes_6 rfl rfl ?_
    refine v_ifnonnull C 14 dX8_changes_7 (by decide) ?_
    refine v_aload_n C 2 dX8_changes_14 rfl rfl ?_
    obtain ⟨i7, hE7, hb7⟩ := hJ4.2.2.getO (b := b6) (by omega) hb6.t0
    refine v_geti (v := i7 10) C b6 dX8_changes_15 fX8_156 (by omega) hE7 rfl rfl ?_
    have hi7_10 : (0 : Int) ≤ (i7 10).toInt ∧ (i7 10).toInt ≤ 800 := hb7 10
    exact v_ret C dX8_changes_18 rfl rfl ⟨(ti_any (i7 10)), hJ4⟩

set_option maxRecDepth 20000 in
theorem t_X8_change (l : Launch) (G : Gl) (ad : Nat → Nat) {k : Nat} {E0 E : Nat → va_E} (hJ : J8 G ad k E0 E) (x : Int32) (y : Int32) : CtI l G yX8_change cX8_change 4 .int 4 95 (98 + 9 * k) ad E [.ref (ad 0), .int x, .int y] (fun r E' => ((-2147483648 : Int) ≤ r.toInt ∧ r.toInt ≤ 2147483647) ∧ J8 G ad k E0 E') := by
  refine CtI.of (by decide) (Nat.le_of_ble_eq_true rfl) (fun X A C => ?_)
  refine v_sub (lv' := [(0, .ref (ad 0)), (1, .int x), (2, .int y)]) [0, 1, 2] rfl ?_
  have hk5 := hJ.1
  refine v_aload_n C 0 dX8_change_0 rfl rfl ?_
  refine v_iload_n C 1 dX8_change_1 rfl rfl ?_
  obtain ⟨io5, hE5⟩ := hJ.c0
  refine v_cVq C dX8_change_2 lX8_153 mX8_freshZone 0 (by omega) hE5 (by decide) rfl (t_X8_freshZone l G ad hJ x) ⟨by decide, by decide⟩ rfl (Nat.le_of_ble_eq_true rfl) ⟨Nat.zero_le _, Nat.zero_le _⟩ (fun r1 E3 hp2 => ?_)
  obtain ⟨hp2, hJ4⟩ := hp2
  rcases hp2 with ⟨hno6, rfl⟩ | ⟨i6x, hi6, hk6, rfl⟩
  · refine v_astore_nN (lv' := [(0, .ref (ad 0)), (1, .int x), (2, .int y), (3, .null)]) C [1, 2, 3, 0] dX8_change_5 rfl (by decide) rfl ?_
    refine v_aload_nN C 3 dX8_change_6 rfl rfl ?_
    refine v_ifnullN C 22 dX8_change_7 (by decide) ?_
    refine v_iconst (v := (-1)) C dX8_change_22 (by decide) ?_
    exact v_ret C dX8_change_23 rfl rfl ⟨(ti_any (-1)), hJ4⟩
  · obtain ⟨b6, eb6⟩ : ∃ q : Nat, q = 98 + 9 * i6x := ⟨_, rfl⟩
    rw [← eb6]
    have hb6 : ZC k b6 := ⟨_, hk6, eb6⟩
    have hb6n := hb6.n
    refine v_astore_n (lv' := [(0, .ref (ad 0)), (1, .int x), (2, .int y), (3, .ref (ad b6))]) C [1, 2, 3, 0] dX8_change_5 rfl (by decide) rfl ?_
    refine v_aload_n C 3 dX8_change_6 rfl rfl ?_
    refine v_ifnull C dX8_change_7 ?_
    refine v_iload_n C 2 dX8_change_10 rfl rfl ?_
    refine b_if_lt C 22 dX8_change_11 (by decide) (rfl : Int32.toInt y = _) (fun c7 => ?_) (fun c7 => ?_)
    · refine v_iconst (v := (-1)) C dX8_change_22 (by decide) ?_
      exact v_ret C dX8_change_23 rfl rfl ⟨(ti_any (-1)), hJ4⟩
    · refine v_iload_n C 2 dX8_change_14 rfl rfl ?_
      refine v_aload_n C 3 dX8_change_15 rfl rfl ?_
      obtain ⟨i8, hE8, hb8⟩ := hJ4.2.2.getO (b := b6) (by omega) hb6.t0
      refine v_geti (v := i8 10) C b6 dX8_change_16 fX8_156 (by omega) hE8 rfl rfl ?_
      have hi8_10 : (0 : Int) ≤ (i8 10).toInt ∧ (i8 10).toInt ≤ 800 := hb8 10
      refine b_icmp_lt C 24 dX8_change_19 (by decide) (rfl : Int32.toInt y = _) (rfl : Int32.toInt (i8 10) = _) (fun c9 => ?_) (fun c9 => ?_)
      · refine v_aload_n C 3 dX8_change_24 rfl rfl ?_
        refine v_getr C b6 dX8_change_25 fX8_159 (by omega) hE8 rfl rfl ?_
        refine v_iload_n C 2 dX8_change_28 rfl rfl ?_
        refine v_iconst (v := 1) C dX8_change_29 (by decide) ?_
        refine v_iadd C dX8_change_30 ?_
        refine v_top (fun x10 ex10 => ?_)
        have hx10 : x10.toInt = (y.toInt + 1) := by rw [ex10]; exact ti_add (rfl : Int32.toInt y = _) (show (1 : Int32).toInt = 1 by decide) (by omega) (by omega)
        obtain ⟨f11, hE11, hb11⟩ := hJ4.2.2.getA (b := (b6 + 6)) (by omega) hb6.t6
        refine v_ald (v := f11 ((y.toInt + 1)).toNat) C (b6 + 6) dX8_change_31 (by omega) hE11 (ti_in hx10 (by omega) (by omega)) (by rw [ti_cl hx10]) ?_
        refine v_top (fun x12 _ => ?_)
        exact v_ret C dX8_change_32 rfl rfl ⟨(ti_any x12), hJ4⟩
      · refine v_iconst (v := (-1)) C dX8_change_22 (by decide) ?_
        exact v_ret C dX8_change_23 rfl rfl ⟨(ti_any (-1)), hJ4⟩

set_option maxRecDepth 20000 in
theorem t_X8_offset (l : Launch) (G : Gl) (ad : Nat → Nat) {k : Nat} {E0 E : Nat → va_E} (hJ : J8 G ad k E0 E) (x : Int32) (y : Int32) : CtI l G yX8_offset cX8_offset 4 .int 4 95 (98 + 9 * k) ad E [.ref (ad 0), .int x, .int y] (fun r E' => ((-2147483648 : Int) ≤ r.toInt ∧ r.toInt ≤ 2147483647) ∧ J8 G ad k E0 E') := by
  refine CtI.of (by decide) (Nat.le_of_ble_eq_true rfl) (fun X A C => ?_)
  refine v_sub (lv' := [(0, .ref (ad 0)), (1, .int x), (2, .int y)]) [0, 1, 2] rfl ?_
  have hk5 := hJ.1
  refine v_aload_n C 0 dX8_offset_0 rfl rfl ?_
  refine v_iload_n C 1 dX8_offset_1 rfl rfl ?_
  obtain ⟨io5, hE5⟩ := hJ.c0
  refine v_cVq C dX8_offset_2 lX8_153 mX8_freshZone 0 (by omega) hE5 (by decide) rfl (t_X8_freshZone l G ad hJ x) ⟨by decide, by decide⟩ rfl (Nat.le_of_ble_eq_true rfl) ⟨Nat.zero_le _, Nat.zero_le _⟩ (fun r1 E3 hp2 => ?_)
  obtain ⟨hp2, hJ4⟩ := hp2
  rcases hp2 with ⟨hno6, rfl⟩ | ⟨i6x, hi6, hk6, rfl⟩
  · refine v_astore_nN (lv' := [(0, .ref (ad 0)), (1, .int x), (2, .int y), (3, .null)]) C [1, 2, 3, 0] dX8_offset_5 rfl (by decide) rfl ?_
    refine v_aload_nN C 3 dX8_offset_6 rfl rfl ?_
    refine v_ifnullN C 17 dX8_offset_7 (by decide) ?_
    refine v_sipush (v := (-9999)) C dX8_offset_17 (by decide) ?_
    exact v_ret C dX8_offset_20 rfl rfl ⟨(ti_any (-9999)), hJ4⟩
  · obtain ⟨b6, eb6⟩ : ∃ q : Nat, q = 98 + 9 * i6x := ⟨_, rfl⟩
    rw [← eb6]
    have hb6 : ZC k b6 := ⟨_, hk6, eb6⟩
    have hb6n := hb6.n
    refine v_astore_n (lv' := [(0, .ref (ad 0)), (1, .int x), (2, .int y), (3, .ref (ad b6))]) C [1, 2, 3, 0] dX8_offset_5 rfl (by decide) rfl ?_
    refine v_aload_n C 3 dX8_offset_6 rfl rfl ?_
    refine v_ifnull C dX8_offset_7 ?_
    refine v_iload_n C 2 dX8_offset_10 rfl rfl ?_
    refine v_cSp C dX8_offset_11 lX8_162 mX8_isMoment (c_isMoment l G _ ad _ y) ⟨by decide, by decide⟩ rfl (Nat.le_of_ble_eq_true rfl) ⟨Nat.zero_le _, Nat.zero_le _⟩ (fun r7 hp8 => ?_)
    rcases hp8 with ⟨rfl, hp8⟩ | ⟨rfl, hp8⟩
    · refine b_if_ne C 21 dX8_offset_14 (by decide) (show (1 : Int32).toInt = 1 by decide) (fun c9 => ?_) (fun c9 => absurd c9 (by decide))
      refine v_aload_n C 3 dX8_offset_21 rfl rfl ?_
      refine v_iload_n C 2 dX8_offset_22 rfl rfl ?_
      obtain ⟨i12, hE12, hb12⟩ := hJ4.2.2.getO (b := b6) (by omega) hb6.t0
      refine v_cVp C dX8_offset_23 lX8_165 mX6_offsetAt b6 (by omega) hE12 (by decide) rfl (t_X6_offsetAt l G ad hJ4 b6 hb6 y) ⟨by decide, by decide⟩ rfl (Nat.le_of_ble_eq_true rfl) ⟨Nat.zero_le _, Nat.zero_le _⟩ (fun r10 hp11 => ?_)
      exact v_ret C dX8_offset_26 rfl rfl ⟨(ti_any r10), hJ4⟩
    · refine b_if_ne C 21 dX8_offset_14 (by decide) (show (0 : Int32).toInt = 0 by decide) (fun c13 => absurd c13 (by decide)) (fun c13 => ?_)
      refine v_sipush (v := (-9999)) C dX8_offset_17 (by decide) ?_
      exact v_ret C dX8_offset_20 rfl rfl ⟨(ti_any (-9999)), hJ4⟩

set_option maxRecDepth 20000 in
theorem t_X8_wall (l : Launch) (G : Gl) (ad : Nat → Nat) {k : Nat} {E0 E : Nat → va_E} (hJ : J8 G ad k E0 E) (x : Int32) (y : Int32) : CtI l G yX8_wall cX8_wall 5 .int 4 95 (98 + 9 * k) ad E [.ref (ad 0), .int x, .int y] (fun r E' => ((-2147483648 : Int) ≤ r.toInt ∧ r.toInt ≤ 2147483647) ∧ J8 G ad k E0 E') := by
  refine CtI.of (by decide) (Nat.le_of_ble_eq_true rfl) (fun X A C => ?_)
  refine v_sub (lv' := [(0, .ref (ad 0)), (1, .int x), (2, .int y)]) [0, 1, 2] rfl ?_
  have hk5 := hJ.1
  refine v_aload_n C 0 dX8_wall_0 rfl rfl ?_
  refine v_iload_n C 1 dX8_wall_1 rfl rfl ?_
  obtain ⟨io5, hE5⟩ := hJ.c0
  refine v_cVq C dX8_wall_2 lX8_153 mX8_freshZone 0 (by omega) hE5 (by decide) rfl (t_X8_freshZone l G ad hJ x) ⟨by decide, by decide⟩ rfl (Nat.le_of_ble_eq_true rfl) ⟨Nat.zero_le _, Nat.zero_le _⟩ (fun r1 E3 hp2 => ?_)
  obtain ⟨hp2, hJ4⟩ := hp2
  rcases hp2 with ⟨hno6, rfl⟩ | ⟨i6x, hi6, hk6, rfl⟩
  · refine v_astore_nN (lv' := [(0, .ref (ad 0)), (1, .int x), (2, .int y), (3, .null)]) C [1, 2, 3, 0] dX8_wall_5 rfl (by decide) rfl ?_
    refine v_aload_nN C 3 dX8_wall_6 rfl rfl ?_
    refine v_ifnullN C 17 dX8_wall_7 (by decide) ?_
    refine v_iconst (v := (-1)) C dX8_wall_17 (by decide) ?_
    exact v_ret C dX8_wall_18 rfl rfl ⟨(ti_any (-1)), hJ4⟩
  · obtain ⟨b6, eb6⟩ : ∃ q : Nat, q = 98 + 9 * i6x := ⟨_, rfl⟩
    rw [← eb6]
    have hb6 : ZC k b6 := ⟨_, hk6, eb6⟩
    have hb6n := hb6.n
    refine v_astore_n (lv' := [(0, .ref (ad 0)), (1, .int x), (2, .int y), (3, .ref (ad b6))]) C [1, 2, 3, 0] dX8_wall_5 rfl (by decide) rfl ?_
    refine v_aload_n C 3 dX8_wall_6 rfl rfl ?_
    refine v_ifnull C dX8_wall_7 ?_
    refine v_iload_n C 2 dX8_wall_10 rfl rfl ?_
    refine v_cSp C dX8_wall_11 lX8_162 mX8_isMoment (c_isMoment l G _ ad _ y) ⟨by decide, by decide⟩ rfl (Nat.le_of_ble_eq_true rfl) ⟨Nat.zero_le _, Nat.zero_le _⟩ (fun r7 hp8 => ?_)
    rcases hp8 with ⟨rfl, hp8⟩ | ⟨rfl, hp8⟩
    · refine b_if_ne C 19 dX8_wall_14 (by decide) (show (1 : Int32).toInt = 1 by decide) (fun c9 => ?_) (fun c9 => absurd c9 (by decide))
      refine v_iload_n C 2 dX8_wall_19 rfl rfl ?_
      refine v_aload_n C 3 dX8_wall_20 rfl rfl ?_
      refine v_iload_n C 2 dX8_wall_21 rfl rfl ?_
      obtain ⟨i12, hE12, hb12⟩ := hJ4.2.2.getO (b := b6) (by omega) hb6.t0
      refine v_cVp C dX8_wall_22 lX8_165 mX6_offsetAt b6 (by omega) hE12 (by decide) rfl (t_X6_offsetAt l G ad hJ4 b6 hb6 y) ⟨by decide, by decide⟩ rfl (Nat.le_of_ble_eq_true rfl) ⟨Nat.zero_le _, Nat.zero_le _⟩ (fun r10 hp11 => ?_)
      refine v_iadd C dX8_wall_25 ?_
      refine v_top (fun x13 _ => ?_)
      refine v_istore (lv' := [(0, .ref (ad 0)), (1, .int x), (2, .int y), (3, .ref (ad b6)), (4, .int x13)]) C [1, 2, 3, 4, 0] dX8_wall_26 (by decide) rfl ?_
      refine v_aload_n C 0 dX8_wall_28 rfl rfl ?_
      obtain ⟨io14, hE14⟩ := hJ4.c0
      refine v_getr C 0 dX8_wall_29 fX8_12 (by omega) hE14 rfl rfl ?_
      refine v_iload C 4 dX8_wall_32 rfl ?_
      obtain ⟨ic17, md17, ms17, ld17, ys17, hC117, hC217, hC317, hC417, hC517, hCP17, hCF17⟩ := hJ4.cal
      have hCl17 := cal_b hCP17
      have hCy17 := cal_y hCP17
      refine v_cVp C dX8_wall_34 lX8_168 mX0_hasWall 1 (by omega) hC117 (by decide) rfl (c_hasWall l G _ ad _ (by omega) hC117 hC217 hC317 hC417 hC517 hCP17 hCF17 x13) ⟨by decide, by decide⟩ rfl (Nat.le_of_ble_eq_true rfl) ⟨Nat.zero_le _, Nat.zero_le _⟩ (fun r15 hp16 => ?_)
      rcases hp16 with ⟨rfl, hp16⟩ | ⟨rfl, hp16⟩
      · refine b_if_eq C 45 dX8_wall_37 (by decide) (show (1 : Int32).toInt = 1 by decide) (fun c18 => absurd c18 (by decide)) (fun c18 => ?_)
        refine v_iload C 4 dX8_wall_40 rfl ?_
        refine v_goto C 47 dX8_wall_42 (by decide) ?_
        exact v_ret C dX8_wall_47 rfl rfl ⟨(ti_any x13), hJ4⟩
      · refine b_if_eq C 45 dX8_wall_37 (by decide) (show (0 : Int32).toInt = 0 by decide) (fun c19 => ?_) (fun c19 => absurd c19 (by decide))
        refine v_bipush (v := (-6)) C dX8_wall_45 (by decide) ?_
        exact v_ret C dX8_wall_47 rfl rfl ⟨(ti_any (-6)), hJ4⟩
    · refine b_if_ne C 19 dX8_wall_14 (by decide) (show (0 : Int32).toInt = 0 by decide) (fun c20 => absurd c20 (by decide)) (fun c20 => ?_)
      refine v_iconst (v := (-1)) C dX8_wall_17 (by decide) ?_
      exact v_ret C dX8_wall_18 rfl rfl ⟨(ti_any (-1)), hJ4⟩

set_option maxRecDepth 20000 in
theorem t_X8_moments (l : Launch) (G : Gl) (ad : Nat → Nat) {k : Nat} {E0 E : Nat → va_E} (hJ : J8 G ad k E0 E) (x : Int32) (y : Int32) : CtI l G yX8_moments cX8_moments 4 .int 4 95 (98 + 9 * k) ad E [.ref (ad 0), .int x, .int y] (fun r E' => ((-2147483648 : Int) ≤ r.toInt ∧ r.toInt ≤ 2147483647) ∧ J8 G ad k E0 E') := by
  refine CtI.of (by decide) (Nat.le_of_ble_eq_true rfl) (fun X A C => ?_)
  refine v_sub (lv' := [(0, .ref (ad 0)), (1, .int x), (2, .int y)]) [0, 1, 2] rfl ?_
  have hk5 := hJ.1
  refine v_aload_n C 0 dX8_moments_0 rfl rfl ?_
  refine v_iload_n C 1 dX8_moments_1 rfl rfl ?_
  obtain ⟨io5, hE5⟩ := hJ.c0
  refine v_cVq C dX8_moments_2 lX8_153 mX8_freshZone 0 (by omega) hE5 (by decide) rfl (t_X8_freshZone l G ad hJ x) ⟨by decide, by decide⟩ rfl (Nat.le_of_ble_eq_true rfl) ⟨Nat.zero_le _, Nat.zero_le _⟩ (fun r1 E3 hp2 => ?_)
  obtain ⟨hp2, hJ4⟩ := hp2
  rcases hp2 with ⟨hno6, rfl⟩ | ⟨i6x, hi6, hk6, rfl⟩
  · refine v_astore_nN (lv' := [(0, .ref (ad 0)), (1, .int x), (2, .int y), (3, .null)]) C [1, 2, 3, 0] dX8_moments_5 rfl (by decide) rfl ?_
    refine v_aload_nN C 3 dX8_moments_6 rfl rfl ?_
    refine v_ifnullN C 21 dX8_moments_7 (by decide) ?_
    refine v_iconst (v := (-1)) C dX8_moments_21 (by decide) ?_
    exact v_ret C dX8_moments_22 rfl rfl ⟨(ti_any (-1)), hJ4⟩
  · obtain ⟨b6, eb6⟩ : ∃ q : Nat, q = 98 + 9 * i6x := ⟨_, rfl⟩
    rw [← eb6]
    have hb6 : ZC k b6 := ⟨_, hk6, eb6⟩
    have hb6n := hb6.n
    refine v_astore_n (lv' := [(0, .ref (ad 0)), (1, .int x), (2, .int y), (3, .ref (ad b6))]) C [1, 2, 3, 0] dX8_moments_5 rfl (by decide) rfl ?_
    refine v_aload_n C 3 dX8_moments_6 rfl rfl ?_
    refine v_ifnull C dX8_moments_7 ?_
    refine v_aload_n C 0 dX8_moments_10 rfl rfl ?_
    obtain ⟨io7, hE7⟩ := hJ4.c0
    refine v_getr C 0 dX8_moments_11 fX8_12 (by omega) hE7 rfl rfl ?_
    refine v_iload_n C 2 dX8_moments_14 rfl rfl ?_
    obtain ⟨ic10, md10, ms10, ld10, ys10, hC110, hC210, hC310, hC410, hC510, hCP10, hCF10⟩ := hJ4.cal
    have hCl10 := cal_b hCP10
    have hCy10 := cal_y hCP10
    refine v_cVp C dX8_moments_15 lX8_168 mX0_hasWall 1 (by omega) hC110 (by decide) rfl (c_hasWall l G _ ad _ (by omega) hC110 hC210 hC310 hC410 hC510 hCP10 hCF10 y) ⟨by decide, by decide⟩ rfl (Nat.le_of_ble_eq_true rfl) ⟨Nat.zero_le _, Nat.zero_le _⟩ (fun r8 hp9 => ?_)
    rcases hp9 with ⟨rfl, hp9⟩ | ⟨rfl, hp9⟩
    · refine b_if_ne C 23 dX8_moments_18 (by decide) (show (1 : Int32).toInt = 1 by decide) (fun c11 => ?_) (fun c11 => absurd c11 (by decide))
      refine v_aload_n C 3 dX8_moments_23 rfl rfl ?_
      refine v_iload_n C 2 dX8_moments_24 rfl rfl ?_
      obtain ⟨i14, hE14, hb14⟩ := hJ4.2.2.getO (b := b6) (by omega) hb6.t0
      refine v_cVp C dX8_moments_25 lX8_171 mX6_momentsOf b6 (by omega) hE14 (by decide) rfl (t_X6_momentsOf l G ad hJ4 b6 hb6 y) ⟨by decide, by decide⟩ rfl (Nat.le_of_ble_eq_true rfl) ⟨Nat.zero_le _, Nat.zero_le _⟩ (fun r12 hp13 => ?_)
      exact v_ret C dX8_moments_28 rfl rfl ⟨(ti_any r12), hJ4⟩
    · refine b_if_ne C 23 dX8_moments_18 (by decide) (show (0 : Int32).toInt = 0 by decide) (fun c15 => absurd c15 (by decide)) (fun c15 => ?_)
      refine v_iconst (v := (-1)) C dX8_moments_21 (by decide) ?_
      exact v_ret C dX8_moments_22 rfl rfl ⟨(ti_any (-1)), hJ4⟩

set_option maxRecDepth 20000 in
theorem t_X8_moment (l : Launch) (G : Gl) (ad : Nat → Nat) {k : Nat} {E0 E : Nat → va_E} (hJ : J8 G ad k E0 E) (x : Int32) (y : Int32) (z : Int32) : CtI l G yX8_moment cX8_moment 6 .int 4 95 (98 + 9 * k) ad E [.ref (ad 0), .int x, .int y, .int z] (fun r E' => ((-2147483648 : Int) ≤ r.toInt ∧ r.toInt ≤ 2147483647) ∧ J8 G ad k E0 E') := by
  refine CtI.of (by decide) (Nat.le_of_ble_eq_true rfl) (fun X A C => ?_)
  refine v_sub (lv' := [(0, .ref (ad 0)), (1, .int x), (2, .int y), (3, .int z)]) [0, 1, 2, 3] rfl ?_
  have hk5 := hJ.1
  refine v_aload_n C 0 dX8_moment_0 rfl rfl ?_
  refine v_iload_n C 1 dX8_moment_1 rfl rfl ?_
  obtain ⟨io5, hE5⟩ := hJ.c0
  refine v_cVq C dX8_moment_2 lX8_153 mX8_freshZone 0 (by omega) hE5 (by decide) rfl (t_X8_freshZone l G ad hJ x) ⟨by decide, by decide⟩ rfl (Nat.le_of_ble_eq_true rfl) ⟨Nat.zero_le _, Nat.zero_le _⟩ (fun r1 E3 hp2 => ?_)
  obtain ⟨hp2, hJ4⟩ := hp2
  rcases hp2 with ⟨hno6, rfl⟩ | ⟨i6x, hi6, hk6, rfl⟩
  · refine v_astoreN (lv' := [(0, .ref (ad 0)), (1, .int x), (2, .int y), (3, .int z), (4, .null)]) C [1, 2, 3, 4, 0] dX8_moment_5 (by decide) rfl ?_
    refine v_aloadN C 4 dX8_moment_7 rfl ?_
    refine v_ifnullN C 23 dX8_moment_9 (by decide) ?_
    refine v_iconst (v := (-1)) C dX8_moment_23 (by decide) ?_
    exact v_ret C dX8_moment_24 rfl rfl ⟨(ti_any (-1)), hJ4⟩
  · obtain ⟨b6, eb6⟩ : ∃ q : Nat, q = 98 + 9 * i6x := ⟨_, rfl⟩
    rw [← eb6]
    have hb6 : ZC k b6 := ⟨_, hk6, eb6⟩
    have hb6n := hb6.n
    refine v_astore (lv' := [(0, .ref (ad 0)), (1, .int x), (2, .int y), (3, .int z), (4, .ref (ad b6))]) C [1, 2, 3, 4, 0] dX8_moment_5 (by decide) rfl ?_
    refine v_aload C 4 dX8_moment_7 rfl ?_
    refine v_ifnull C dX8_moment_9 ?_
    refine v_aload_n C 0 dX8_moment_12 rfl rfl ?_
    obtain ⟨io7, hE7⟩ := hJ4.c0
    refine v_getr C 0 dX8_moment_13 fX8_12 (by omega) hE7 rfl rfl ?_
    refine v_iload_n C 2 dX8_moment_16 rfl rfl ?_
    obtain ⟨ic10, md10, ms10, ld10, ys10, hC110, hC210, hC310, hC410, hC510, hCP10, hCF10⟩ := hJ4.cal
    have hCl10 := cal_b hCP10
    have hCy10 := cal_y hCP10
    refine v_cVp C dX8_moment_17 lX8_168 mX0_hasWall 1 (by omega) hC110 (by decide) rfl (c_hasWall l G _ ad _ (by omega) hC110 hC210 hC310 hC410 hC510 hCP10 hCF10 y) ⟨by decide, by decide⟩ rfl (Nat.le_of_ble_eq_true rfl) ⟨Nat.zero_le _, Nat.zero_le _⟩ (fun r8 hp9 => ?_)
    rcases hp9 with ⟨rfl, hp9⟩ | ⟨rfl, hp9⟩
    · refine b_if_ne C 25 dX8_moment_20 (by decide) (show (1 : Int32).toInt = 1 by decide) (fun c11 => ?_) (fun c11 => absurd c11 (by decide))
      refine v_aload C 4 dX8_moment_25 rfl ?_
      refine v_iload_n C 2 dX8_moment_27 rfl rfl ?_
      refine v_iload_n C 3 dX8_moment_28 rfl rfl ?_
      obtain ⟨i14, hE14, hb14⟩ := hJ4.2.2.getO (b := b6) (by omega) hb6.t0
      refine v_cVp C dX8_moment_29 lX8_174 mX6_momentOf b6 (by omega) hE14 (by decide) rfl (t_X6_momentOf l G ad hJ4 b6 hb6 y z) ⟨by decide, by decide⟩ rfl (Nat.le_of_ble_eq_true rfl) ⟨Nat.zero_le _, Nat.zero_le _⟩ (fun r12 hp13 => ?_)
      refine v_istore (lv' := [(0, .ref (ad 0)), (1, .int x), (2, .int y), (3, .int z), (4, .ref (ad b6)), (5, .int r12)]) C [1, 2, 3, 4, 5, 0] dX8_moment_32 (by decide) rfl ?_
      refine v_iload C 5 dX8_moment_34 rfl ?_
      refine v_iconst (v := (-1)) C dX8_moment_36 (by decide) ?_
      refine b_icmp_ne C 45 dX8_moment_37 (by decide) (rfl : Int32.toInt r12 = _) (show ((-1) : Int32).toInt = (-1) by decide) (fun c15 => ?_) (fun c15 => ?_)
      · refine v_iload C 5 dX8_moment_45 rfl ?_
        exact v_ret C dX8_moment_47 rfl rfl ⟨(ti_any r12), hJ4⟩
      · refine v_bipush (v := (-6)) C dX8_moment_40 (by decide) ?_
        refine v_goto C 47 dX8_moment_42 (by decide) ?_
        exact v_ret C dX8_moment_47 rfl rfl ⟨(ti_any (-6)), hJ4⟩
    · refine b_if_ne C 25 dX8_moment_20 (by decide) (show (0 : Int32).toInt = 0 by decide) (fun c16 => absurd c16 (by decide)) (fun c16 => ?_)
      refine v_iconst (v := (-1)) C dX8_moment_23 (by decide) ?_
      exact v_ret C dX8_moment_24 rfl rfl ⟨(ti_any (-1)), hJ4⟩

set_option maxRecDepth 20000 in
theorem t_X8_mix (l : Launch) (G : Gl) (ad : Nat → Nat) {k : Nat} {E0 E : Nat → va_E} (hJ : J8 G ad k E0 E) (x : Int32) : CtI l G yX8_mix cX8_mix 3 .int 1 21 (98 + 9 * k) ad E [.ref (ad 0), .int x] (fun r E' => ((-2147483648 : Int) ≤ r.toInt ∧ r.toInt ≤ 2147483647) ∧ E = E') := by
  refine CtI.of (by decide) (Nat.le_of_ble_eq_true rfl) (fun X A C => ?_)
  refine v_sub (lv' := [(0, .ref (ad 0)), (1, .int x)]) [0, 1] rfl ?_
  have hk5 := hJ.1
  refine v_aload_n C 0 dX8_mix_0 rfl rfl ?_
  refine v_iload_n C 1 dX8_mix_1 rfl rfl ?_
  obtain ⟨io3, hE3⟩ := hJ.c0
  refine v_cVr C dX8_mix_2 lX8_177 mX8_programAt 0 (by omega) hE3 (by decide) rfl (t_X8_programAt l G ad hJ x) ⟨by decide, by decide⟩ rfl (Nat.le_of_ble_eq_true rfl) ⟨Nat.zero_le _, Nat.zero_le _⟩ (fun r1 hp2 => ?_)
  rcases hp2 with ⟨hno4, rfl⟩ | ⟨i4x, hi4, hk4, rfl⟩
  · refine v_astore_nN (lv' := [(0, .ref (ad 0)), (1, .int x), (2, .null)]) C [1, 2, 0] dX8_mix_5 rfl (by decide) rfl ?_
    refine v_aload_nN C 2 dX8_mix_6 rfl rfl ?_
    refine v_ifnonnullN C dX8_mix_7 ?_
    refine v_iconst (v := (-1)) C dX8_mix_10 (by decide) ?_
    exact v_ret C dX8_mix_11 rfl rfl ⟨(ti_any (-1)), rfl⟩
  · obtain ⟨c4, ec4⟩ : ∃ q : Nat, q = 9 + 6 * i4x := ⟨_, rfl⟩
    rw [← ec4]
    have hc4 : PC c4 := by rw [ec4]; exact PC.p hk4
    have hc4l : c4 < 45 := by omega
    have hc4n := hc4.n
    refine v_astore_n (lv' := [(0, .ref (ad 0)), (1, .int x), (2, .ref (ad c4))]) C [1, 2, 0] dX8_mix_5 rfl (by decide) rfl ?_
    refine v_aload_n C 2 dX8_mix_6 rfl rfl ?_
    refine v_ifnonnull C 12 dX8_mix_7 (by decide) ?_
    refine v_aload_n C 2 dX8_mix_12 rfl rfl ?_
    obtain ⟨i5, hE5, hb5⟩ := hJ.2.2.getO (b := c4) (by omega) (hc4.t0 k)
    refine v_geti (v := i5 7) C c4 dX8_mix_13 fX8_198 (by omega) hE5 rfl rfl ?_
    refine v_iconst (v := (-1)) C dX8_mix_16 (by decide) ?_
    refine b_icmp_ne C 25 dX8_mix_17 (by decide) (rfl : Int32.toInt (i5 7) = _) (show ((-1) : Int32).toInt = (-1) by decide) (fun c6 => ?_) (fun c6 => ?_)
    · refine v_aload_n C 2 dX8_mix_25 rfl rfl ?_
      refine v_geti (v := i5 7) C c4 dX8_mix_26 fX8_198 (by omega) hE5 rfl rfl ?_
      exact v_ret C dX8_mix_29 rfl rfl ⟨(ti_any (i5 7)), rfl⟩
    · refine v_bipush (v := (-6)) C dX8_mix_20 (by decide) ?_
      refine v_goto C 29 dX8_mix_22 (by decide) ?_
      exact v_ret C dX8_mix_29 rfl rfl ⟨(ti_any (-6)), rfl⟩

set_option maxRecDepth 20000 in
theorem t_X8_kind (l : Launch) (G : Gl) (ad : Nat → Nat) {k : Nat} {E0 E : Nat → va_E} (hJ : J8 G ad k E0 E) (x : Int32) : CtI l G yX8_kind cX8_kind 3 .int 1 21 (98 + 9 * k) ad E [.ref (ad 0), .int x] (fun r E' => ((-2147483648 : Int) ≤ r.toInt ∧ r.toInt ≤ 2147483647) ∧ E = E') := by
  refine CtI.of (by decide) (Nat.le_of_ble_eq_true rfl) (fun X A C => ?_)
  refine v_sub (lv' := [(0, .ref (ad 0)), (1, .int x)]) [0, 1] rfl ?_
  have hk5 := hJ.1
  refine v_aload_n C 0 dX8_kind_0 rfl rfl ?_
  refine v_iload_n C 1 dX8_kind_1 rfl rfl ?_
  obtain ⟨io3, hE3⟩ := hJ.c0
  refine v_cVr C dX8_kind_2 lX8_177 mX8_programAt 0 (by omega) hE3 (by decide) rfl (t_X8_programAt l G ad hJ x) ⟨by decide, by decide⟩ rfl (Nat.le_of_ble_eq_true rfl) ⟨Nat.zero_le _, Nat.zero_le _⟩ (fun r1 hp2 => ?_)
  rcases hp2 with ⟨hno4, rfl⟩ | ⟨i4x, hi4, hk4, rfl⟩
  · refine v_astore_nN (lv' := [(0, .ref (ad 0)), (1, .int x), (2, .null)]) C [1, 2, 0] dX8_kind_5 rfl (by decide) rfl ?_
    refine v_aload_nN C 2 dX8_kind_6 rfl rfl ?_
    refine v_ifnonnullN C dX8_kind_7 ?_
    refine v_iconst (v := (-1)) C dX8_kind_10 (by decide) ?_
    exact v_ret C dX8_kind_11 rfl rfl ⟨(ti_any (-1)), rfl⟩
  · obtain ⟨c4, ec4⟩ : ∃ q : Nat, q = 9 + 6 * i4x := ⟨_, rfl⟩
    rw [← ec4]
    have hc4 : PC c4 := by rw [ec4]; exact PC.p hk4
    have hc4l : c4 < 45 := by omega
    have hc4n := hc4.n
    refine v_astore_n (lv' := [(0, .ref (ad 0)), (1, .int x), (2, .ref (ad c4))]) C [1, 2, 0] dX8_kind_5 rfl (by decide) rfl ?_
    refine v_aload_n C 2 dX8_kind_6 rfl rfl ?_
    refine v_ifnonnull C 12 dX8_kind_7 (by decide) ?_
    refine v_aload_n C 2 dX8_kind_12 rfl rfl ?_
    obtain ⟨i5, hE5, hb5⟩ := hJ.2.2.getO (b := c4) (by omega) (hc4.t0 k)
    refine v_geti (v := i5 7) C c4 dX8_kind_13 fX8_198 (by omega) hE5 rfl rfl ?_
    refine v_iconst (v := (-1)) C dX8_kind_16 (by decide) ?_
    refine b_icmp_ne C 27 dX8_kind_17 (by decide) (rfl : Int32.toInt (i5 7) = _) (show ((-1) : Int32).toInt = (-1) by decide) (fun c6 => ?_) (fun c6 => ?_)
    · refine v_bipush (v := (-4)) C dX8_kind_27 (by decide) ?_
      exact v_ret C dX8_kind_29 rfl rfl ⟨(ti_any (-4)), rfl⟩
    · refine v_aload_n C 2 dX8_kind_20 rfl rfl ?_
      refine v_geti (v := i5 8) C c4 dX8_kind_21 fX8_201 (by omega) hE5 rfl rfl ?_
      refine v_goto C 29 dX8_kind_24 (by decide) ?_
      exact v_ret C dX8_kind_29 rfl rfl ⟨(ti_any (i5 8)), rfl⟩

set_option maxRecDepth 20000 in
theorem t_X8_run (l : Launch) (G : Gl) (ad : Nat → Nat) {k : Nat} {E0 E : Nat → va_E} (hJ : J8 G ad k E0 E) (x : Int32) (y : Int32) : CtI l G yX8_run cX8_run 4 .int 5 124 (98 + 9 * k) ad E [.ref (ad 0), .int x, .int y] (fun r E' => ((-2147483648 : Int) ≤ r.toInt ∧ r.toInt ≤ 2147483647) ∧ J8 G ad k E0 E') := by
  refine CtI.of (by decide) (Nat.le_of_ble_eq_true rfl) (fun X A C => ?_)
  refine v_sub (lv' := [(0, .ref (ad 0)), (1, .int x), (2, .int y)]) [0, 1, 2] rfl ?_
  have hk5 := hJ.1
  refine v_aload_n C 0 dX8_run_0 rfl rfl ?_
  refine v_iload_n C 1 dX8_run_1 rfl rfl ?_
  obtain ⟨io3, hE3⟩ := hJ.c0
  refine v_cVr C dX8_run_2 lX8_177 mX8_programAt 0 (by omega) hE3 (by decide) rfl (t_X8_programAt l G ad hJ x) ⟨by decide, by decide⟩ rfl (Nat.le_of_ble_eq_true rfl) ⟨Nat.zero_le _, Nat.zero_le _⟩ (fun r1 hp2 => ?_)
  rcases hp2 with ⟨hno4, rfl⟩ | ⟨i4x, hi4, hk4, rfl⟩
  · refine v_astore_nN (lv' := [(0, .ref (ad 0)), (1, .int x), (2, .int y), (3, .null)]) C [1, 2, 3, 0] dX8_run_5 rfl (by decide) rfl ?_
    refine v_aload_nN C 3 dX8_run_6 rfl rfl ?_
    refine v_ifnullN C 25 dX8_run_7 (by decide) ?_
    refine v_ldc C dX8_run_25 kX8_204 ?_
    exact v_ret C dX8_run_27 rfl rfl ⟨(ti_any (-2000000000)), hJ⟩
  · obtain ⟨c4, ec4⟩ : ∃ q : Nat, q = 9 + 6 * i4x := ⟨_, rfl⟩
    rw [← ec4]
    have hc4 : PC c4 := by rw [ec4]; exact PC.p hk4
    have hc4l : c4 < 45 := by omega
    have hc4n := hc4.n
    refine v_astore_n (lv' := [(0, .ref (ad 0)), (1, .int x), (2, .int y), (3, .ref (ad c4))]) C [1, 2, 3, 0] dX8_run_5 rfl (by decide) rfl ?_
    refine v_aload_n C 3 dX8_run_6 rfl rfl ?_
    refine v_ifnull C dX8_run_7 ?_
    refine v_iload_n C 2 dX8_run_10 rfl rfl ?_
    refine v_cSp C dX8_run_11 lX8_162 mX8_isMoment (c_isMoment l G _ ad _ y) ⟨by decide, by decide⟩ rfl (Nat.le_of_ble_eq_true rfl) ⟨Nat.zero_le _, Nat.zero_le _⟩ (fun r5 hp6 => ?_)
    rcases hp6 with ⟨rfl, hp6⟩ | ⟨rfl, hp6⟩
    · refine b_if_eq C 25 dX8_run_14 (by decide) (show (1 : Int32).toInt = 1 by decide) (fun c7 => absurd c7 (by decide)) (fun c7 => ?_)
      refine v_aload_n C 3 dX8_run_17 rfl rfl ?_
      obtain ⟨i8, hE8, hb8⟩ := hJ.2.2.getO (b := c4) (by omega) (hc4.t0 k)
      refine v_geti (v := i8 7) C c4 dX8_run_18 fX8_198 (by omega) hE8 rfl rfl ?_
      refine v_iconst (v := (-1)) C dX8_run_21 (by decide) ?_
      refine b_icmp_eq C 28 dX8_run_22 (by decide) (rfl : Int32.toInt (i8 7) = _) (show ((-1) : Int32).toInt = (-1) by decide) (fun c9 => ?_) (fun c9 => ?_)
      · refine v_aload_n C 0 dX8_run_28 rfl rfl ?_
        refine v_getr C 0 dX8_run_29 fX8_19 (by omega) hE3 rfl rfl ?_
        refine v_aload_n C 0 dX8_run_32 rfl rfl ?_
        refine v_geti (v := io3 7) C 0 dX8_run_33 fX8_56 (by omega) hE3 rfl rfl ?_
        obtain ⟨i14, hE14, hb14⟩ := hJ.2.2.getO (b := 6) (by omega) rfl
        refine v_cVv C dX8_run_36 lX8_205 mX7_refresh 6 (by omega) hE14 (by decide) rfl (t_X7_refresh l G ad hJ (io3 7)) ⟨by decide, by decide⟩ rfl (Nat.le_of_ble_eq_true rfl) ⟨Nat.zero_le _, Nat.zero_le _⟩ (fun E11 hJ13 => ?_)
        refine v_aload_n C 0 dX8_run_39 rfl rfl ?_
        obtain ⟨io15, hE15⟩ := hJ13.c0
        refine v_getr C 0 dX8_run_40 fX8_42 (by omega) hE15 rfl rfl ?_
        obtain ⟨i16, hE16, hb16⟩ := hJ13.2.2.getO (b := 48) (by omega) rfl
        refine v_getr C 48 dX8_run_43 fX8_209 (by omega) hE16 rfl rfl ?_
        refine v_aload_n C 3 dX8_run_46 rfl rfl ?_
        refine v_iload_n C 2 dX8_run_47 rfl rfl ?_
        obtain ⟨i21, hE21, hb21⟩ := hJ13.2.2.getO (b := 49) (by omega) rfl
        refine v_cVi C dX8_run_48 lX8_213 mX2_answerOf 49 (by omega) hE21 (by decide) rfl (t_X2_answerOf l G ad hJ13 c4 hc4 y) ⟨by decide, by decide⟩ rfl (Nat.le_of_ble_eq_true rfl) ⟨Nat.zero_le _, Nat.zero_le _⟩ (fun r17 E18 hp19 => ?_)
        obtain ⟨hp19, hJ20⟩ := hp19
        exact v_ret C dX8_run_51 rfl rfl ⟨(ti_any r17), hJ20⟩
      · refine v_ldc C dX8_run_25 kX8_204 ?_
        exact v_ret C dX8_run_27 rfl rfl ⟨(ti_any (-2000000000)), hJ⟩
    · refine b_if_eq C 25 dX8_run_14 (by decide) (show (0 : Int32).toInt = 0 by decide) (fun c22 => ?_) (fun c22 => absurd c22 (by decide))
      refine v_ldc C dX8_run_25 kX8_204 ?_
      exact v_ret C dX8_run_27 rfl rfl ⟨(ti_any (-2000000000)), hJ⟩

set_option maxRecDepth 20000 in
theorem t_X8_keeps (l : Launch) (G : Gl) (ad : Nat → Nat) {k : Nat} {E0 E : Nat → va_E} (hJ : J8 G ad k E0 E) (x : Int32) (y : Int32) (z : Int32) (u : Int32) : CtI l G yX8_keeps cX8_keeps 6 .int 5 124 (98 + 9 * k) ad E [.ref (ad 0), .int x, .int y, .int z, .int u] (fun r E' => ((-2147483648 : Int) ≤ r.toInt ∧ r.toInt ≤ 2147483647) ∧ J8 G ad k E0 E') := by
  refine CtI.of (by decide) (Nat.le_of_ble_eq_true rfl) (fun X A C => ?_)
  refine v_sub (lv' := [(0, .ref (ad 0)), (1, .int x), (2, .int y), (3, .int z), (4, .int u)]) [0, 1, 2, 3, 4] rfl ?_
  have hk5 := hJ.1
  refine v_aload_n C 0 dX8_keeps_0 rfl rfl ?_
  refine v_iload_n C 1 dX8_keeps_1 rfl rfl ?_
  obtain ⟨io3, hE3⟩ := hJ.c0
  refine v_cVr C dX8_keeps_2 lX8_177 mX8_programAt 0 (by omega) hE3 (by decide) rfl (t_X8_programAt l G ad hJ x) ⟨by decide, by decide⟩ rfl (Nat.le_of_ble_eq_true rfl) ⟨Nat.zero_le _, Nat.zero_le _⟩ (fun r1 hp2 => ?_)
  rcases hp2 with ⟨hno4, rfl⟩ | ⟨i4x, hi4, hk4, rfl⟩
  · refine v_astoreN (lv' := [(0, .ref (ad 0)), (1, .int x), (2, .int y), (3, .int z), (4, .int u), (5, .null)]) C [1, 2, 3, 4, 5, 0] dX8_keeps_5 (by decide) rfl ?_
    refine v_aloadN C 5 dX8_keeps_7 rfl ?_
    refine v_ifnullN C 29 dX8_keeps_9 (by decide) ?_
    refine v_iconst (v := (-1)) C dX8_keeps_29 (by decide) ?_
    exact v_ret C dX8_keeps_30 rfl rfl ⟨(ti_any (-1)), hJ⟩
  · obtain ⟨c4, ec4⟩ : ∃ q : Nat, q = 9 + 6 * i4x := ⟨_, rfl⟩
    rw [← ec4]
    have hc4 : PC c4 := by rw [ec4]; exact PC.p hk4
    have hc4l : c4 < 45 := by omega
    have hc4n := hc4.n
    refine v_astore (lv' := [(0, .ref (ad 0)), (1, .int x), (2, .int y), (3, .int z), (4, .int u), (5, .ref (ad c4))]) C [1, 2, 3, 4, 5, 0] dX8_keeps_5 (by decide) rfl ?_
    refine v_aload C 5 dX8_keeps_7 rfl ?_
    refine v_ifnull C dX8_keeps_9 ?_
    refine v_aload_n C 0 dX8_keeps_12 rfl rfl ?_
    refine v_iload_n C 2 dX8_keeps_13 rfl rfl ?_
    refine v_iload_n C 3 dX8_keeps_14 rfl rfl ?_
    refine v_cVp C dX8_keeps_15 lX8_219 mX8_isLaw 0 (by omega) hE3 (by decide) rfl (t_X8_isLaw l G ad hJ y z) ⟨by decide, by decide⟩ rfl (Nat.le_of_ble_eq_true rfl) ⟨Nat.zero_le _, Nat.zero_le _⟩ (fun r5 hp6 => ?_)
    rcases hp6 with rfl | rfl
    · refine b_if_eq C 29 dX8_keeps_18 (by decide) (show (0 : Int32).toInt = 0 by decide) (fun c7 => ?_) (fun c7 => absurd c7 (by decide))
      refine v_iconst (v := (-1)) C dX8_keeps_29 (by decide) ?_
      exact v_ret C dX8_keeps_30 rfl rfl ⟨(ti_any (-1)), hJ⟩
    · refine b_if_eq C 29 dX8_keeps_18 (by decide) (show (1 : Int32).toInt = 1 by decide) (fun c8 => absurd c8 (by decide)) (fun c8 => ?_)
      refine v_iload C 4 dX8_keeps_21 rfl ?_
      refine v_cSp C dX8_keeps_23 lX8_162 mX8_isMoment (c_isMoment l G _ ad _ u) ⟨by decide, by decide⟩ rfl (Nat.le_of_ble_eq_true rfl) ⟨Nat.zero_le _, Nat.zero_le _⟩ (fun r9 hp10 => ?_)
      rcases hp10 with ⟨rfl, hp10⟩ | ⟨rfl, hp10⟩
      · refine b_if_ne C 31 dX8_keeps_26 (by decide) (show (1 : Int32).toInt = 1 by decide) (fun c11 => ?_) (fun c11 => absurd c11 (by decide))
        refine v_aload C 5 dX8_keeps_31 rfl ?_
        obtain ⟨i12, hE12, hb12⟩ := hJ.2.2.getO (b := c4) (by omega) (hc4.t0 k)
        refine v_geti (v := i12 7) C c4 dX8_keeps_33 fX8_198 (by omega) hE12 rfl rfl ?_
        refine v_iconst (v := (-1)) C dX8_keeps_36 (by decide) ?_
        refine b_icmp_eq C 43 dX8_keeps_37 (by decide) (rfl : Int32.toInt (i12 7) = _) (show ((-1) : Int32).toInt = (-1) by decide) (fun c13 => ?_) (fun c13 => ?_)
        · refine v_aload_n C 0 dX8_keeps_43 rfl rfl ?_
          refine v_getr C 0 dX8_keeps_44 fX8_19 (by omega) hE3 rfl rfl ?_
          refine v_aload_n C 0 dX8_keeps_47 rfl rfl ?_
          refine v_geti (v := io3 7) C 0 dX8_keeps_48 fX8_56 (by omega) hE3 rfl rfl ?_
          obtain ⟨i18, hE18, hb18⟩ := hJ.2.2.getO (b := 6) (by omega) rfl
          refine v_cVv C dX8_keeps_51 lX8_205 mX7_refresh 6 (by omega) hE18 (by decide) rfl (t_X7_refresh l G ad hJ (io3 7)) ⟨by decide, by decide⟩ rfl (Nat.le_of_ble_eq_true rfl) ⟨Nat.zero_le _, Nat.zero_le _⟩ (fun E15 hJ17 => ?_)
          refine v_aload_n C 0 dX8_keeps_54 rfl rfl ?_
          obtain ⟨io19, hE19⟩ := hJ17.c0
          refine v_getr C 0 dX8_keeps_55 fX8_42 (by omega) hE19 rfl rfl ?_
          refine v_iload_n C 2 dX8_keeps_58 rfl rfl ?_
          refine v_bipush (v := 10) C dX8_keeps_59 (by decide) ?_
          refine v_irem C dX8_keeps_61 (by decide) ?_
          refine v_top (fun x20 _ => ?_)
          refine v_iload_n C 2 dX8_keeps_62 rfl rfl ?_
          refine v_bipush (v := 10) C dX8_keeps_63 (by decide) ?_
          refine v_idiv C dX8_keeps_65 (by decide) ?_
          refine v_top (fun x21 ex21 => ?_)
          have hx21 : (-214748364 : Int) ≤ x21.toInt ∧ x21.toInt ≤ 214748364 := by rw [ex21]; exact ti_tdb (show (10 : Int32).toInt = 10 by decide) (by decide)
          refine v_iload_n C 3 dX8_keeps_66 rfl rfl ?_
          obtain ⟨i26, hE26, hb26⟩ := hJ17.2.2.getO (b := 48) (by omega) rfl
          refine v_cVv C dX8_keeps_67 lX8_223 mX1_hear 48 (by omega) hE26 (by decide) rfl (t_X1_hear l G ad hJ17 x20 x21 z) ⟨by decide, by decide⟩ rfl (Nat.le_of_ble_eq_true rfl) ⟨Nat.zero_le _, Nat.zero_le _⟩ (fun E23 hJ25 => ?_)
          refine v_aload_n C 0 dX8_keeps_70 rfl rfl ?_
          obtain ⟨io27, hE27⟩ := hJ25.c0
          refine v_getr C 0 dX8_keeps_71 fX8_42 (by omega) hE27 rfl rfl ?_
          refine v_aload C 5 dX8_keeps_74 rfl ?_
          obtain ⟨i28, hE28, hb28⟩ := hJ25.2.2.getO (b := c4) (by omega) (hc4.t0 k)
          refine v_geti (v := i28 8) C c4 dX8_keeps_76 fX8_201 (by omega) hE28 rfl rfl ?_
          refine v_aload_n C 0 dX8_keeps_79 rfl rfl ?_
          refine v_getr C 0 dX8_keeps_80 fX8_42 (by omega) hE27 rfl rfl ?_
          obtain ⟨i29, hE29, hb29⟩ := hJ25.2.2.getO (b := 48) (by omega) rfl
          refine v_getr C 48 dX8_keeps_83 fX8_209 (by omega) hE29 rfl rfl ?_
          refine v_aload C 5 dX8_keeps_86 rfl ?_
          refine v_iload C 4 dX8_keeps_88 rfl ?_
          obtain ⟨i34, hE34, hb34⟩ := hJ25.2.2.getO (b := 49) (by omega) rfl
          refine v_cVi C dX8_keeps_90 lX8_213 mX2_answerOf 49 (by omega) hE34 (by decide) rfl (t_X2_answerOf l G ad hJ25 c4 hc4 u) ⟨by decide, by decide⟩ rfl (Nat.le_of_ble_eq_true rfl) ⟨Nat.zero_le _, Nat.zero_le _⟩ (fun r30 E31 hp32 => ?_)
          obtain ⟨hp32, hJ33⟩ := hp32
          refine v_iload C 4 dX8_keeps_93 rfl ?_
          obtain ⟨i37, hE37, hb37⟩ := hJ33.2.2.getO (b := 48) (by omega) rfl
          refine v_cVp C dX8_keeps_95 lX8_226 mX1_holds 48 (by omega) hE37 (by decide) rfl (t_X1_holds l G ad hJ33 (i28 8) r30 u) ⟨by decide, by decide⟩ rfl (Nat.le_of_ble_eq_true rfl) ⟨Nat.zero_le _, Nat.zero_le _⟩ (fun r35 hp36 => ?_)
          rcases hp36 with rfl | rfl
          · refine b_if_eq C 105 dX8_keeps_98 (by decide) (show (0 : Int32).toInt = 0 by decide) (fun c38 => ?_) (fun c38 => absurd c38 (by decide))
            refine v_iconst (v := 0) C dX8_keeps_105 (by decide) ?_
            exact v_ret C dX8_keeps_106 rfl rfl ⟨(ti_any 0), hJ33⟩
          · refine b_if_eq C 105 dX8_keeps_98 (by decide) (show (1 : Int32).toInt = 1 by decide) (fun c39 => absurd c39 (by decide)) (fun c39 => ?_)
            refine v_iconst (v := 1) C dX8_keeps_101 (by decide) ?_
            refine v_goto C 106 dX8_keeps_102 (by decide) ?_
            exact v_ret C dX8_keeps_106 rfl rfl ⟨(ti_any 1), hJ33⟩
        · refine v_bipush (v := (-4)) C dX8_keeps_40 (by decide) ?_
          exact v_ret C dX8_keeps_42 rfl rfl ⟨(ti_any (-4)), hJ⟩
      · refine b_if_ne C 31 dX8_keeps_26 (by decide) (show (0 : Int32).toInt = 0 by decide) (fun c40 => absurd c40 (by decide)) (fun c40 => ?_)
        refine v_iconst (v := (-1)) C dX8_keeps_29 (by decide) ?_
        exact v_ret C dX8_keeps_30 rfl rfl ⟨(ti_any (-1)), hJ⟩

set_option maxRecDepth 20000 in
theorem t_X8_odds (l : Launch) (G : Gl) (ad : Nat → Nat) {k : Nat} {E0 E : Nat → va_E} (hJ : J8 G ad k E0 E) (x : Int32) (y : Int32) : CtI l G yX8_odds cX8_odds 3 .int 5 124 (98 + 9 * k) ad E [.ref (ad 0), .int x, .int y] (fun r E' => ((-2147483648 : Int) ≤ r.toInt ∧ r.toInt ≤ 2147483647) ∧ J8 G ad k E0 E') := by
  refine CtI.of (by decide) (Nat.le_of_ble_eq_true rfl) (fun X A C => ?_)
  refine v_sub (lv' := [(0, .ref (ad 0)), (1, .int x), (2, .int y)]) [0, 1, 2] rfl ?_
  have hk5 := hJ.1
  refine v_iload_n C 1 dX8_odds_0 rfl rfl ?_
  refine v_iload_n C 2 dX8_odds_1 rfl rfl ?_
  refine v_cSp C dX8_odds_2 lX8_230 mX8_isRange (t_X8_isRange l G ad hJ x y) ⟨by decide, by decide⟩ rfl (Nat.le_of_ble_eq_true rfl) ⟨Nat.zero_le _, Nat.zero_le _⟩ (fun r1 hp2 => ?_)
  rcases hp2 with rfl | rfl
  · refine b_if_ne C 10 dX8_odds_5 (by decide) (show (0 : Int32).toInt = 0 by decide) (fun c3 => absurd c3 (by decide)) (fun c3 => ?_)
    refine v_iconst (v := (-1)) C dX8_odds_8 (by decide) ?_
    exact v_ret C dX8_odds_9 rfl rfl ⟨(ti_any (-1)), hJ⟩
  · refine b_if_ne C 10 dX8_odds_5 (by decide) (show (1 : Int32).toInt = 1 by decide) (fun c4 => ?_) (fun c4 => absurd c4 (by decide))
    refine v_aload_n C 0 dX8_odds_10 rfl rfl ?_
    refine v_iload_n C 1 dX8_odds_11 rfl rfl ?_
    refine v_iload_n C 2 dX8_odds_12 rfl rfl ?_
    obtain ⟨io9, hE9⟩ := hJ.c0
    refine v_cVv C dX8_odds_13 lX8_233 mX8_gatherOdds 0 (by omega) hE9 (by decide) rfl (t_X8_gatherOdds l G ad hJ x y) ⟨by decide, by decide⟩ rfl (Nat.le_of_ble_eq_true rfl) ⟨Nat.zero_le _, Nat.zero_le _⟩ (fun E6 hJ8 => ?_)
    refine v_aload_n C 0 dX8_odds_16 rfl rfl ?_
    obtain ⟨io10, hE10⟩ := hJ8.c0
    refine v_getr C 0 dX8_odds_17 fX8_33 (by omega) hE10 rfl rfl ?_
    obtain ⟨i11, hE11, hb11⟩ := hJ8.2.2.getO (b := 45) (by omega) rfl
    refine v_geti (v := i11 2) C 45 dX8_odds_20 fX8_237 (by omega) hE11 rfl rfl ?_
    have hi11_2 : (0 : Int) ≤ (i11 2).toInt ∧ (i11 2).toInt ≤ 26002 := hb11 2
    exact v_ret C dX8_odds_23 rfl rfl ⟨(ti_any (i11 2)), hJ8⟩

set_option maxRecDepth 20000 in
theorem t_X8_odd (l : Launch) (G : Gl) (ad : Nat → Nat) {k : Nat} {E0 E : Nat → va_E} (hJ : J8 G ad k E0 E) (x : Int32) (y : Int32) (z : Int32) : CtI l G yX8_odd cX8_odd 4 .int 5 124 (98 + 9 * k) ad E [.ref (ad 0), .int x, .int y, .int z] (fun r E' => ((-2147483648 : Int) ≤ r.toInt ∧ r.toInt ≤ 2147483647) ∧ J8 G ad k E0 E') := by
  refine CtI.of (by decide) (Nat.le_of_ble_eq_true rfl) (fun X A C => ?_)
  refine v_sub (lv' := [(0, .ref (ad 0)), (1, .int x), (2, .int y), (3, .int z)]) [0, 1, 2, 3] rfl ?_
  have hk5 := hJ.1
  refine v_iload_n C 3 dX8_odd_0 rfl rfl ?_
  refine b_if_lt C 12 dX8_odd_1 (by decide) (rfl : Int32.toInt z = _) (fun c1 => ?_) (fun c1 => ?_)
  · refine v_iconst (v := (-1)) C dX8_odd_12 (by decide) ?_
    exact v_ret C dX8_odd_13 rfl rfl ⟨(ti_any (-1)), hJ⟩
  · refine v_iload_n C 1 dX8_odd_4 rfl rfl ?_
    refine v_iload_n C 2 dX8_odd_5 rfl rfl ?_
    refine v_cSp C dX8_odd_6 lX8_230 mX8_isRange (t_X8_isRange l G ad hJ x y) ⟨by decide, by decide⟩ rfl (Nat.le_of_ble_eq_true rfl) ⟨Nat.zero_le _, Nat.zero_le _⟩ (fun r2 hp3 => ?_)
    rcases hp3 with rfl | rfl
    · refine b_if_ne C 14 dX8_odd_9 (by decide) (show (0 : Int32).toInt = 0 by decide) (fun c4 => absurd c4 (by decide)) (fun c4 => ?_)
      refine v_iconst (v := (-1)) C dX8_odd_12 (by decide) ?_
      exact v_ret C dX8_odd_13 rfl rfl ⟨(ti_any (-1)), hJ⟩
    · refine b_if_ne C 14 dX8_odd_9 (by decide) (show (1 : Int32).toInt = 1 by decide) (fun c5 => ?_) (fun c5 => absurd c5 (by decide))
      refine v_aload_n C 0 dX8_odd_14 rfl rfl ?_
      refine v_iload_n C 1 dX8_odd_15 rfl rfl ?_
      refine v_iload_n C 2 dX8_odd_16 rfl rfl ?_
      obtain ⟨io10, hE10⟩ := hJ.c0
      refine v_cVv C dX8_odd_17 lX8_233 mX8_gatherOdds 0 (by omega) hE10 (by decide) rfl (t_X8_gatherOdds l G ad hJ x y) ⟨by decide, by decide⟩ rfl (Nat.le_of_ble_eq_true rfl) ⟨Nat.zero_le _, Nat.zero_le _⟩ (fun E7 hJ9 => ?_)
      refine v_iload_n C 3 dX8_odd_20 rfl rfl ?_
      refine v_aload_n C 0 dX8_odd_21 rfl rfl ?_
      obtain ⟨io11, hE11⟩ := hJ9.c0
      refine v_getr C 0 dX8_odd_22 fX8_33 (by omega) hE11 rfl rfl ?_
      obtain ⟨i12, hE12, hb12⟩ := hJ9.2.2.getO (b := 45) (by omega) rfl
      refine v_geti (v := i12 2) C 45 dX8_odd_25 fX8_237 (by omega) hE12 rfl rfl ?_
      have hi12_2 : (0 : Int) ≤ (i12 2).toInt ∧ (i12 2).toInt ≤ 26002 := hb12 2
      refine b_icmp_ge C 43 dX8_odd_28 (by decide) (rfl : Int32.toInt z = _) (rfl : Int32.toInt (i12 2) = _) (fun c13 => ?_) (fun c13 => ?_)
      · refine v_iconst (v := (-1)) C dX8_odd_43 (by decide) ?_
        exact v_ret C dX8_odd_44 rfl rfl ⟨(ti_any (-1)), hJ9⟩
      · refine v_aload_n C 0 dX8_odd_31 rfl rfl ?_
        refine v_getr C 0 dX8_odd_32 fX8_33 (by omega) hE11 rfl rfl ?_
        refine v_getr C 45 dX8_odd_35 fX8_240 (by omega) hE12 rfl rfl ?_
        refine v_iload_n C 3 dX8_odd_38 rfl rfl ?_
        obtain ⟨f14, hE14, hb14⟩ := hJ9.2.2.getA (b := 47) (by omega) rfl
        refine v_ald (v := f14 (z.toInt).toNat) C 47 dX8_odd_39 (by omega) hE14 (ti_in (rfl : Int32.toInt z = _) (by omega) (by omega)) (by rw [ti_cl (rfl : Int32.toInt z = _)]) ?_
        refine v_top (fun x15 _ => ?_)
        refine v_goto C 44 dX8_odd_40 (by decide) ?_
        exact v_ret C dX8_odd_44 rfl rfl ⟨(ti_any x15), hJ9⟩

set_option maxRecDepth 20000 in
theorem t_X8_least (l : Launch) (G : Gl) (ad : Nat → Nat) {k : Nat} {E0 E : Nat → va_E} (hJ : J8 G ad k E0 E) (x : Int32) (y : Int32) (z : Int32) (u : Int32) (v : Int32) : CtI l G yX8_least cX8_least 8 .int 6 147 (98 + 9 * k) ad E [.ref (ad 0), .int x, .int y, .int z, .int u, .int v] (fun r E' => ((-2147483648 : Int) ≤ r.toInt ∧ r.toInt ≤ 2147483647) ∧ J8 G ad k E0 E') := by
  refine CtI.of (by decide) (Nat.le_of_ble_eq_true rfl) (fun X A C => ?_)
  refine v_sub (lv' := [(0, .ref (ad 0)), (1, .int x), (2, .int y), (3, .int z), (4, .int u), (5, .int v)]) [0, 1, 2, 3, 4, 5] rfl ?_
  have hk5 := hJ.1
  refine v_aload_n C 0 dX8_least_0 rfl rfl ?_
  refine v_iload_n C 1 dX8_least_1 rfl rfl ?_
  obtain ⟨io3, hE3⟩ := hJ.c0
  refine v_cVr C dX8_least_2 lX8_177 mX8_programAt 0 (by omega) hE3 (by decide) rfl (t_X8_programAt l G ad hJ x) ⟨by decide, by decide⟩ rfl (Nat.le_of_ble_eq_true rfl) ⟨Nat.zero_le _, Nat.zero_le _⟩ (fun r1 hp2 => ?_)
  rcases hp2 with ⟨hno4, rfl⟩ | ⟨i4x, hi4, hk4, rfl⟩
  · refine v_astoreN (lv' := [(0, .ref (ad 0)), (1, .int x), (2, .int y), (3, .int z), (4, .int u), (5, .int v), (6, .null)]) C [1, 2, 3, 4, 5, 6, 0] dX8_least_5 (by decide) rfl ?_
    refine v_aloadN C 6 dX8_least_7 rfl ?_
    refine v_ifnullN C 33 dX8_least_9 (by decide) ?_
    refine v_iconst (v := (-1)) C dX8_least_33 (by decide) ?_
    exact v_ret C dX8_least_34 rfl rfl ⟨(ti_any (-1)), hJ⟩
  · obtain ⟨c4, ec4⟩ : ∃ q : Nat, q = 9 + 6 * i4x := ⟨_, rfl⟩
    rw [← ec4]
    have hc4 : PC c4 := by rw [ec4]; exact PC.p hk4
    have hc4l : c4 < 45 := by omega
    have hc4n := hc4.n
    refine v_astore (lv' := [(0, .ref (ad 0)), (1, .int x), (2, .int y), (3, .int z), (4, .int u), (5, .int v), (6, .ref (ad c4))]) C [1, 2, 3, 4, 5, 6, 0] dX8_least_5 (by decide) rfl ?_
    refine v_aload C 6 dX8_least_7 rfl ?_
    refine v_ifnull C dX8_least_9 ?_
    refine v_aload_n C 0 dX8_least_12 rfl rfl ?_
    refine v_iload_n C 2 dX8_least_13 rfl rfl ?_
    refine v_iload_n C 3 dX8_least_14 rfl rfl ?_
    refine v_cVp C dX8_least_15 lX8_219 mX8_isLaw 0 (by omega) hE3 (by decide) rfl (t_X8_isLaw l G ad hJ y z) ⟨by decide, by decide⟩ rfl (Nat.le_of_ble_eq_true rfl) ⟨Nat.zero_le _, Nat.zero_le _⟩ (fun r5 hp6 => ?_)
    rcases hp6 with rfl | rfl
    · refine b_if_eq C 33 dX8_least_18 (by decide) (show (0 : Int32).toInt = 0 by decide) (fun c7 => ?_) (fun c7 => absurd c7 (by decide))
      refine v_iconst (v := (-1)) C dX8_least_33 (by decide) ?_
      exact v_ret C dX8_least_34 rfl rfl ⟨(ti_any (-1)), hJ⟩
    · refine b_if_eq C 33 dX8_least_18 (by decide) (show (1 : Int32).toInt = 1 by decide) (fun c8 => absurd c8 (by decide)) (fun c8 => ?_)
      refine v_iload C 4 dX8_least_21 rfl ?_
      refine v_iload C 5 dX8_least_23 rfl ?_
      refine v_ldc C dX8_least_25 kX8_243 ?_
      refine v_cSp C dX8_least_27 lX8_244 mX8_isReach (t_X8_isReach l G ad hJ u v 2000000) ⟨by decide, by decide⟩ rfl (Nat.le_of_ble_eq_true rfl) ⟨Nat.zero_le _, Nat.zero_le _⟩ (fun r9 hp10 => ?_)
      rcases hp10 with rfl | rfl
      · refine b_if_ne C 35 dX8_least_30 (by decide) (show (0 : Int32).toInt = 0 by decide) (fun c11 => absurd c11 (by decide)) (fun c11 => ?_)
        refine v_iconst (v := (-1)) C dX8_least_33 (by decide) ?_
        exact v_ret C dX8_least_34 rfl rfl ⟨(ti_any (-1)), hJ⟩
      · refine b_if_ne C 35 dX8_least_30 (by decide) (show (1 : Int32).toInt = 1 by decide) (fun c12 => ?_) (fun c12 => absurd c12 (by decide))
        refine v_aload C 6 dX8_least_35 rfl ?_
        obtain ⟨i13, hE13, hb13⟩ := hJ.2.2.getO (b := c4) (by omega) (hc4.t0 k)
        refine v_geti (v := i13 7) C c4 dX8_least_37 fX8_198 (by omega) hE13 rfl rfl ?_
        refine v_iconst (v := (-1)) C dX8_least_40 (by decide) ?_
        refine b_icmp_eq C 47 dX8_least_41 (by decide) (rfl : Int32.toInt (i13 7) = _) (show ((-1) : Int32).toInt = (-1) by decide) (fun c14 => ?_) (fun c14 => ?_)
        · refine v_aload_n C 0 dX8_least_47 rfl rfl ?_
          refine v_iload C 4 dX8_least_48 rfl ?_
          refine v_iload C 4 dX8_least_50 rfl ?_
          refine v_iload C 5 dX8_least_52 rfl ?_
          refine v_iadd C dX8_least_54 ?_
          refine v_top (fun x15 _ => ?_)
          refine v_cVv C dX8_least_55 lX8_233 mX8_gatherOdds 0 (by omega) hE3 (by decide) rfl (t_X8_gatherOdds l G ad hJ u x15) ⟨by decide, by decide⟩ rfl (Nat.le_of_ble_eq_true rfl) ⟨Nat.zero_le _, Nat.zero_le _⟩ (fun E17 hJ19 => ?_)
          refine v_aload_n C 0 dX8_least_58 rfl rfl ?_
          obtain ⟨io20, hE20⟩ := hJ19.c0
          refine v_getr C 0 dX8_least_59 fX8_42 (by omega) hE20 rfl rfl ?_
          refine v_iload_n C 2 dX8_least_62 rfl rfl ?_
          refine v_bipush (v := 10) C dX8_least_63 (by decide) ?_
          refine v_irem C dX8_least_65 (by decide) ?_
          refine v_top (fun x21 _ => ?_)
          refine v_iload_n C 2 dX8_least_66 rfl rfl ?_
          refine v_bipush (v := 10) C dX8_least_67 (by decide) ?_
          refine v_idiv C dX8_least_69 (by decide) ?_
          refine v_top (fun x22 ex22 => ?_)
          have hx22 : (-214748364 : Int) ≤ x22.toInt ∧ x22.toInt ≤ 214748364 := by rw [ex22]; exact ti_tdb (show (10 : Int32).toInt = 10 by decide) (by decide)
          refine v_iload_n C 3 dX8_least_70 rfl rfl ?_
          obtain ⟨i27, hE27, hb27⟩ := hJ19.2.2.getO (b := 48) (by omega) rfl
          refine v_cVv C dX8_least_71 lX8_223 mX1_hear 48 (by omega) hE27 (by decide) rfl (t_X1_hear l G ad hJ19 x21 x22 z) ⟨by decide, by decide⟩ rfl (Nat.le_of_ble_eq_true rfl) ⟨Nat.zero_le _, Nat.zero_le _⟩ (fun E24 hJ26 => ?_)
          refine v_aload_n C 0 dX8_least_74 rfl rfl ?_
          obtain ⟨io28, hE28⟩ := hJ26.c0
          refine v_getr C 0 dX8_least_75 fX8_42 (by omega) hE28 rfl rfl ?_
          refine v_aload C 6 dX8_least_78 rfl ?_
          obtain ⟨i33, hE33, hb33⟩ := hJ26.2.2.getO (b := 48) (by omega) rfl
          refine v_cVi C dX8_least_80 lX8_247 mX1_firstBroken 48 (by omega) hE33 (by decide) rfl (t_X1_firstBroken l G ad hJ26 c4 hc4) ⟨by decide, by decide⟩ rfl (Nat.le_of_ble_eq_true rfl) ⟨Nat.zero_le _, Nat.zero_le _⟩ (fun r29 E30 hp31 => ?_)
          obtain ⟨hp31, hJ32⟩ := hp31
          refine v_istore (lv' := [(0, .ref (ad 0)), (1, .int x), (2, .int y), (3, .int z), (4, .int u), (5, .int v), (6, .ref (ad c4)), (7, .int r29)]) C [1, 2, 3, 4, 5, 6, 7, 0] dX8_least_83 (by decide) rfl ?_
          refine v_iload C 7 dX8_least_85 rfl ?_
          refine v_iconst (v := (-1)) C dX8_least_87 (by decide) ?_
          refine b_icmp_ne C 96 dX8_least_88 (by decide) (rfl : Int32.toInt r29 = _) (show ((-1) : Int32).toInt = (-1) by decide) (fun c34 => ?_) (fun c34 => ?_)
          · refine v_iload C 7 dX8_least_96 rfl ?_
            exact v_ret C dX8_least_98 rfl rfl ⟨(ti_any r29), hJ32⟩
          · refine v_bipush (v := (-6)) C dX8_least_91 (by decide) ?_
            refine v_goto C 98 dX8_least_93 (by decide) ?_
            exact v_ret C dX8_least_98 rfl rfl ⟨(ti_any (-6)), hJ32⟩
        · refine v_bipush (v := (-4)) C dX8_least_44 (by decide) ?_
          exact v_ret C dX8_least_46 rfl rfl ⟨(ti_any (-4)), hJ⟩

set_option maxRecDepth 20000 in
theorem t_X8_mend (l : Launch) (G : Gl) (ad : Nat → Nat) {k : Nat} {E0 E : Nat → va_E} (hJ : J8 G ad k E0 E) (x : Int32) (y : Int32) (z : Int32) (u : Int32) (v : Int32) : CtI l G yX8_mend cX8_mend 8 .int 7 170 (98 + 9 * k) ad E [.ref (ad 0), .int x, .int y, .int z, .int u, .int v] (fun r E' => ((-2147483648 : Int) ≤ r.toInt ∧ r.toInt ≤ 2147483647) ∧ J8 G ad k E0 E') := by
  refine CtI.of (by decide) (Nat.le_of_ble_eq_true rfl) (fun X A C => ?_)
  refine v_sub (lv' := [(0, .ref (ad 0)), (1, .int x), (2, .int y), (3, .int z), (4, .int u), (5, .int v)]) [0, 1, 2, 3, 4, 5] rfl ?_
  have hk5 := hJ.1
  refine v_aload_n C 0 dX8_mend_0 rfl rfl ?_
  refine v_iload_n C 1 dX8_mend_1 rfl rfl ?_
  obtain ⟨io3, hE3⟩ := hJ.c0
  refine v_cVr C dX8_mend_2 lX8_177 mX8_programAt 0 (by omega) hE3 (by decide) rfl (t_X8_programAt l G ad hJ x) ⟨by decide, by decide⟩ rfl (Nat.le_of_ble_eq_true rfl) ⟨Nat.zero_le _, Nat.zero_le _⟩ (fun r1 hp2 => ?_)
  rcases hp2 with ⟨hno4, rfl⟩ | ⟨i4x, hi4, hk4, rfl⟩
  · refine v_astoreN (lv' := [(0, .ref (ad 0)), (1, .int x), (2, .int y), (3, .int z), (4, .int u), (5, .int v), (6, .null)]) C [1, 2, 3, 4, 5, 6, 0] dX8_mend_5 (by decide) rfl ?_
    refine v_aloadN C 6 dX8_mend_7 rfl ?_
    refine v_ifnullN C 33 dX8_mend_9 (by decide) ?_
    refine v_iconst (v := (-1)) C dX8_mend_33 (by decide) ?_
    exact v_ret C dX8_mend_34 rfl rfl ⟨(ti_any (-1)), hJ⟩
  · obtain ⟨c4, ec4⟩ : ∃ q : Nat, q = 9 + 6 * i4x := ⟨_, rfl⟩
    rw [← ec4]
    have hc4 : PC c4 := by rw [ec4]; exact PC.p hk4
    have hc4l : c4 < 45 := by omega
    have hc4n := hc4.n
    refine v_astore (lv' := [(0, .ref (ad 0)), (1, .int x), (2, .int y), (3, .int z), (4, .int u), (5, .int v), (6, .ref (ad c4))]) C [1, 2, 3, 4, 5, 6, 0] dX8_mend_5 (by decide) rfl ?_
    refine v_aload C 6 dX8_mend_7 rfl ?_
    refine v_ifnull C dX8_mend_9 ?_
    refine v_aload_n C 0 dX8_mend_12 rfl rfl ?_
    refine v_iload_n C 2 dX8_mend_13 rfl rfl ?_
    refine v_iload_n C 3 dX8_mend_14 rfl rfl ?_
    refine v_cVp C dX8_mend_15 lX8_219 mX8_isLaw 0 (by omega) hE3 (by decide) rfl (t_X8_isLaw l G ad hJ y z) ⟨by decide, by decide⟩ rfl (Nat.le_of_ble_eq_true rfl) ⟨Nat.zero_le _, Nat.zero_le _⟩ (fun r5 hp6 => ?_)
    rcases hp6 with rfl | rfl
    · refine b_if_eq C 33 dX8_mend_18 (by decide) (show (0 : Int32).toInt = 0 by decide) (fun c7 => ?_) (fun c7 => absurd c7 (by decide))
      refine v_iconst (v := (-1)) C dX8_mend_33 (by decide) ?_
      exact v_ret C dX8_mend_34 rfl rfl ⟨(ti_any (-1)), hJ⟩
    · refine b_if_eq C 33 dX8_mend_18 (by decide) (show (1 : Int32).toInt = 1 by decide) (fun c8 => absurd c8 (by decide)) (fun c8 => ?_)
      refine v_iload C 4 dX8_mend_21 rfl ?_
      refine v_iload C 5 dX8_mend_23 rfl ?_
      refine v_ldc C dX8_mend_25 kX8_251 ?_
      refine v_cSp C dX8_mend_27 lX8_244 mX8_isReach (t_X8_isReach l G ad hJ u v 100000) ⟨by decide, by decide⟩ rfl (Nat.le_of_ble_eq_true rfl) ⟨Nat.zero_le _, Nat.zero_le _⟩ (fun r9 hp10 => ?_)
      rcases hp10 with rfl | rfl
      · refine b_if_ne C 35 dX8_mend_30 (by decide) (show (0 : Int32).toInt = 0 by decide) (fun c11 => absurd c11 (by decide)) (fun c11 => ?_)
        refine v_iconst (v := (-1)) C dX8_mend_33 (by decide) ?_
        exact v_ret C dX8_mend_34 rfl rfl ⟨(ti_any (-1)), hJ⟩
      · refine b_if_ne C 35 dX8_mend_30 (by decide) (show (1 : Int32).toInt = 1 by decide) (fun c12 => ?_) (fun c12 => absurd c12 (by decide))
        refine v_aload_n C 0 dX8_mend_35 rfl rfl ?_
        refine v_iload C 4 dX8_mend_36 rfl ?_
        refine v_iload C 4 dX8_mend_38 rfl ?_
        refine v_iload C 5 dX8_mend_40 rfl ?_
        refine v_iadd C dX8_mend_42 ?_
        refine v_top (fun x13 _ => ?_)
        refine v_cVv C dX8_mend_43 lX8_233 mX8_gatherOdds 0 (by omega) hE3 (by decide) rfl (t_X8_gatherOdds l G ad hJ u x13) ⟨by decide, by decide⟩ rfl (Nat.le_of_ble_eq_true rfl) ⟨Nat.zero_le _, Nat.zero_le _⟩ (fun E15 hJ17 => ?_)
        refine v_aload_n C 0 dX8_mend_46 rfl rfl ?_
        obtain ⟨io18, hE18⟩ := hJ17.c0
        refine v_getr C 0 dX8_mend_47 fX8_42 (by omega) hE18 rfl rfl ?_
        refine v_iload_n C 2 dX8_mend_50 rfl rfl ?_
        refine v_bipush (v := 10) C dX8_mend_51 (by decide) ?_
        refine v_irem C dX8_mend_53 (by decide) ?_
        refine v_top (fun x19 _ => ?_)
        refine v_iload_n C 2 dX8_mend_54 rfl rfl ?_
        refine v_bipush (v := 10) C dX8_mend_55 (by decide) ?_
        refine v_idiv C dX8_mend_57 (by decide) ?_
        refine v_top (fun x20 ex20 => ?_)
        have hx20 : (-214748364 : Int) ≤ x20.toInt ∧ x20.toInt ≤ 214748364 := by rw [ex20]; exact ti_tdb (show (10 : Int32).toInt = 10 by decide) (by decide)
        refine v_iload_n C 3 dX8_mend_58 rfl rfl ?_
        obtain ⟨i25, hE25, hb25⟩ := hJ17.2.2.getO (b := 48) (by omega) rfl
        refine v_cVv C dX8_mend_59 lX8_223 mX1_hear 48 (by omega) hE25 (by decide) rfl (t_X1_hear l G ad hJ17 x19 x20 z) ⟨by decide, by decide⟩ rfl (Nat.le_of_ble_eq_true rfl) ⟨Nat.zero_le _, Nat.zero_le _⟩ (fun E22 hJ24 => ?_)
        refine v_aload_n C 0 dX8_mend_62 rfl rfl ?_
        obtain ⟨io26, hE26⟩ := hJ24.c0
        refine v_getr C 0 dX8_mend_63 fX8_51 (by omega) hE26 rfl rfl ?_
        refine v_aload C 6 dX8_mend_66 rfl ?_
        obtain ⟨i31, hE31, hb31⟩ := hJ24.2.2.getO (b := 51) (by omega) rfl
        refine v_cVi C dX8_mend_68 lX8_252 mX3_search 51 (by omega) hE31 (by decide) rfl (t_X3_search l G ad hJ24 c4 hc4 (by omega)) ⟨by decide, by decide⟩ rfl (Nat.le_of_ble_eq_true rfl) ⟨Nat.zero_le _, Nat.zero_le _⟩ (fun r27 E28 hp29 => ?_)
        obtain ⟨hp29, hJ30⟩ := hp29
        refine v_istore (lv' := [(0, .ref (ad 0)), (1, .int x), (2, .int y), (3, .int z), (4, .int u), (5, .int v), (6, .ref (ad c4)), (7, .int r27)]) C [1, 2, 3, 4, 5, 6, 7, 0] dX8_mend_71 (by decide) rfl ?_
        refine v_iload C 7 dX8_mend_73 rfl ?_
        refine v_iconst (v := (-1)) C dX8_mend_75 (by decide) ?_
        refine b_icmp_ne C 84 dX8_mend_76 (by decide) (rfl : Int32.toInt r27 = _) (show ((-1) : Int32).toInt = (-1) by decide) (fun c32 => ?_) (fun c32 => ?_)
        · refine v_iload C 7 dX8_mend_84 rfl ?_
          exact v_ret C dX8_mend_86 rfl rfl ⟨(ti_any r27), hJ30⟩
        · refine v_bipush (v := (-6)) C dX8_mend_79 (by decide) ?_
          refine v_goto C 86 dX8_mend_81 (by decide) ?_
          exact v_ret C dX8_mend_86 rfl rfl ⟨(ti_any (-6)), hJ30⟩

set_option maxRecDepth 20000 in
theorem t_X8_mended (l : Launch) (G : Gl) (ad : Nat → Nat) {k : Nat} {E0 E : Nat → va_E} (hJ : J8 G ad k E0 E) (x : Int32) (y : Int32) : CtI l G yX8_mended cX8_mended 4 .int 0 0 (98 + 9 * k) ad E [.ref (ad 0), .int x, .int y] (fun r E' => ((-2147483648 : Int) ≤ r.toInt ∧ r.toInt ≤ 2147483647) ∧ E = E') := by
  refine CtI.of (by decide) (Nat.le_of_ble_eq_true rfl) (fun X A C => ?_)
  refine v_sub (lv' := [(0, .ref (ad 0)), (1, .int x), (2, .int y)]) [0, 1, 2] rfl ?_
  have hk5 := hJ.1
  refine v_aload_n C 0 dX8_mended_0 rfl rfl ?_
  obtain ⟨io1, hE1⟩ := hJ.c0
  refine v_getr C 0 dX8_mended_1 fX8_51 (by omega) hE1 rfl rfl ?_
  obtain ⟨i2, hE2, hb2⟩ := hJ.2.2.getO (b := 51) (by omega) rfl
  refine v_getr C 51 dX8_mended_4 fX8_255 (by omega) hE2 rfl rfl ?_
  refine v_astore_n (lv' := [(0, .ref (ad 0)), (1, .int x), (2, .int y), (3, .ref (ad 58))]) C [1, 2, 3, 0] dX8_mended_7 rfl (by decide) rfl ?_
  refine v_iload_n C 1 dX8_mended_8 rfl rfl ?_
  refine b_if_lt C 29 dX8_mended_9 (by decide) (rfl : Int32.toInt x = _) (fun c3 => ?_) (fun c3 => ?_)
  · refine v_ldc C dX8_mended_29 kX8_204 ?_
    exact v_ret C dX8_mended_31 rfl rfl ⟨(ti_any (-2000000000)), rfl⟩
  · refine v_iload_n C 1 dX8_mended_12 rfl rfl ?_
    refine v_aload_n C 3 dX8_mended_13 rfl rfl ?_
    obtain ⟨i4, hE4, hb4⟩ := hJ.2.2.getO (b := 58) (by omega) (pc58.t0 k)
    refine v_geti (v := i4 6) C 58 dX8_mended_14 fX8_181 (by omega) hE4 rfl rfl ?_
    have hi4_6 : (0 : Int) ≤ (i4 6).toInt ∧ (i4 6).toInt ≤ 10 := hb4 6
    refine b_icmp_ge C 29 dX8_mended_17 (by decide) (rfl : Int32.toInt x = _) (rfl : Int32.toInt (i4 6) = _) (fun c5 => ?_) (fun c5 => ?_)
    · refine v_ldc C dX8_mended_29 kX8_204 ?_
      exact v_ret C dX8_mended_31 rfl rfl ⟨(ti_any (-2000000000)), rfl⟩
    · refine v_iload_n C 2 dX8_mended_20 rfl rfl ?_
      refine b_if_lt C 29 dX8_mended_21 (by decide) (rfl : Int32.toInt y = _) (fun c6 => ?_) (fun c6 => ?_)
      · refine v_ldc C dX8_mended_29 kX8_204 ?_
        exact v_ret C dX8_mended_31 rfl rfl ⟨(ti_any (-2000000000)), rfl⟩
      · refine v_iload_n C 2 dX8_mended_24 rfl rfl ?_
        refine v_iconst (v := 2) C dX8_mended_25 (by decide) ?_
        refine b_icmp_le C 32 dX8_mended_26 (by decide) (rfl : Int32.toInt y = _) (show (2 : Int32).toInt = 2 by decide) (fun c7 => ?_) (fun c7 => ?_)
        · refine v_iload_n C 2 dX8_mended_32 rfl rfl ?_
          refine b_if_ne C 43 dX8_mended_33 (by decide) (rfl : Int32.toInt y = _) (fun c8 => ?_) (fun c8 => ?_)
          · refine v_iload_n C 2 dX8_mended_43 rfl rfl ?_
            refine v_iconst (v := 1) C dX8_mended_44 (by decide) ?_
            refine b_icmp_ne C 57 dX8_mended_45 (by decide) (rfl : Int32.toInt y = _) (show (1 : Int32).toInt = 1 by decide) (fun c9 => ?_) (fun c9 => ?_)
            · refine v_aload_n C 3 dX8_mended_57 rfl rfl ?_
              refine v_getr C 58 dX8_mended_58 fX8_265 (by omega) hE4 rfl rfl ?_
              refine v_iload_n C 1 dX8_mended_61 rfl rfl ?_
              obtain ⟨f10, hE10, hb10⟩ := hJ.2.2.getA (b := 61) (by omega) (pc58.t3 k)
              refine v_ald (v := f10 (x.toInt).toNat) C 61 dX8_mended_62 (by omega) hE10 (ti_in (rfl : Int32.toInt x = _) (by omega) (by omega)) (by rw [ti_cl (rfl : Int32.toInt x = _)]) ?_
              refine v_top (fun x11 _ => ?_)
              exact v_ret C dX8_mended_63 rfl rfl ⟨(ti_any x11), rfl⟩
            · refine v_aload_n C 3 dX8_mended_48 rfl rfl ?_
              refine v_getr C 58 dX8_mended_49 fX8_262 (by omega) hE4 rfl rfl ?_
              refine v_iload_n C 1 dX8_mended_52 rfl rfl ?_
              obtain ⟨f12, hE12, hb12⟩ := hJ.2.2.getA (b := 60) (by omega) (pc58.t2 k)
              refine v_ald (v := f12 (x.toInt).toNat) C 60 dX8_mended_53 (by omega) hE12 (ti_in (rfl : Int32.toInt x = _) (by omega) (by omega)) (by rw [ti_cl (rfl : Int32.toInt x = _)]) ?_
              refine v_top (fun x13 _ => ?_)
              refine v_goto C 63 dX8_mended_54 (by decide) ?_
              exact v_ret C dX8_mended_63 rfl rfl ⟨(ti_any x13), rfl⟩
          · refine v_aload_n C 3 dX8_mended_36 rfl rfl ?_
            refine v_getr C 58 dX8_mended_37 fX8_259 (by omega) hE4 rfl rfl ?_
            refine v_iload_n C 1 dX8_mended_40 rfl rfl ?_
            obtain ⟨f14, hE14, hb14⟩ := hJ.2.2.getA (b := 59) (by omega) (pc58.t1 k)
            refine v_ald (v := f14 (x.toInt).toNat) C 59 dX8_mended_41 (by omega) hE14 (ti_in (rfl : Int32.toInt x = _) (by omega) (by omega)) (by rw [ti_cl (rfl : Int32.toInt x = _)]) ?_
            refine v_top (fun x15 _ => ?_)
            exact v_ret C dX8_mended_42 rfl rfl ⟨(ti_any x15), rfl⟩
        · refine v_ldc C dX8_mended_29 kX8_204 ?_
          exact v_ret C dX8_mended_31 rfl rfl ⟨(ti_any (-2000000000)), rfl⟩

set_option maxRecDepth 20000 in
theorem t_X8_allLines (l : Launch) (G : Gl) (ad : Nat → Nat) {k : Nat} {E0 E : Nat → va_E} (hJ : J8 G ad k E0 E) : CtI l G yX8_allLines cX8_allLines 4 .int 0 0 (98 + 9 * k) ad E [.ref (ad 0)] (fun r E' => ((0 : Int) ≤ r.toInt ∧ r.toInt ≤ 60) ∧ E = E') := by
  refine CtI.of (by decide) (Nat.le_of_ble_eq_true rfl) (fun X A C => ?_)
  refine v_sub (lv' := [(0, .ref (ad 0))]) [0] rfl ?_
  have hk5 := hJ.1
  refine v_iconst (v := 0) C dX8_allLines_0 (by decide) ?_
  refine v_istore_n (lv' := [(0, .ref (ad 0)), (1, .int 0)]) C [1, 0] dX8_allLines_1 rfl (by decide) rfl ?_
  refine v_iconst (v := 0) C dX8_allLines_2 (by decide) ?_
  refine v_istore_n (lv' := [(0, .ref (ad 0)), (1, .int 0), (2, .int 0)]) C [1, 2, 0] dX8_allLines_3 rfl (by decide) rfl ?_
  have LP1 : ∀ (t : Nat) (y2 : Int32) (y3 : Int32), ((0 : Int) ≤ y2.toInt ∧ y2.toInt ≤ 60) → ((0 : Int) ≤ y3.toInt ∧ y3.toInt ≤ 6) → (y2.toInt ≤ 10 * y3.toInt) → 7 - y3.toInt < (t : Int) → V X G A 4 (QI X G A (98 + 9 * k) ad (fun r E' => ((0 : Int) ≤ r.toInt ∧ r.toInt ≤ 60) ∧ E = E')) (98 + 9 * k) ad 0 0 E 4 [(0, .ref (ad 0)), (1, .int y2), (2, .int y3)] [] := by
    intro t9
    induction t9 with
    | zero => intro y2 y3 hy2 hy3 hq4 hm8; exfalso; omega
    | succ t9 ih7 =>
      intro y2 y3 hy2 hy3 hq4 hm8
      refine v_iload_n C 2 dX8_allLines_4 rfl rfl ?_
      refine v_bipush (v := 6) C dX8_allLines_5 (by decide) ?_
      refine b_icmp_ge C 38 dX8_allLines_7 (by decide) (rfl : Int32.toInt y3 = _) (show (6 : Int32).toInt = 6 by decide) (fun c10 => ?_) (fun c10 => ?_)
      · refine v_iload_n C 1 dX8_allLines_38 rfl rfl ?_
        exact v_ret C dX8_allLines_39 rfl rfl ⟨(show (0 : Int) ≤ Int32.toInt y2 ∧ Int32.toInt y2 ≤ 60 by omega), rfl⟩
      · refine v_aload_n C 0 dX8_allLines_10 rfl rfl ?_
        obtain ⟨io11, hE11⟩ := hJ.c0
        refine v_getr C 0 dX8_allLines_11 fX8_25 (by omega) hE11 rfl rfl ?_
        refine v_iload_n C 2 dX8_allLines_14 rfl rfl ?_
        obtain ⟨fp12, hE12, hz12⟩ := hJ.c8
        obtain ⟨c13, ec13⟩ : ∃ q : Nat, q = 9 + 6 * ((y3.toInt).toNat) := ⟨_, rfl⟩
        have hc13 : PC c13 := by rw [ec13]; exact PC.p (by omega)
        have hc13l : c13 < 45 := by omega
        have hc13n := hc13.n
        refine v_aldP (v := some (ad c13)) C 8 dX8_allLines_15 (by omega) hE12 (ti_in (rfl : Int32.toInt y3 = _) (by omega) (by omega)) (by rw [ti_cl (rfl : Int32.toInt y3 = _), ec13]; exact hz12 ((y3.toInt).toNat) (by omega)) ?_
        refine v_astore_n (lv' := [(0, .ref (ad 0)), (1, .int y2), (2, .int y3), (3, .ref (ad c13))]) C [1, 2, 3, 0] dX8_allLines_16 rfl (by decide) rfl ?_
        refine v_iload_n C 1 dX8_allLines_17 rfl rfl ?_
        refine v_aload_n C 3 dX8_allLines_18 rfl rfl ?_
        refine v_ifnonnull C 26 dX8_allLines_19 (by decide) ?_
        refine v_aload_n C 3 dX8_allLines_26 rfl rfl ?_
        obtain ⟨i14, hE14, hb14⟩ := hJ.2.2.getO (b := c13) (by omega) (hc13.t0 k)
        refine v_geti (v := i14 6) C c13 dX8_allLines_27 fX8_181 (by omega) hE14 rfl rfl ?_
        have hi14_6 : (0 : Int) ≤ (i14 6).toInt ∧ (i14 6).toInt ≤ 10 := hb14 6
        refine v_iadd C dX8_allLines_30 ?_
        refine v_top (fun x15 ex15 => ?_)
        have hx15 : x15.toInt = (y2.toInt + (i14 6).toInt) := by rw [ex15]; exact ti_add (rfl : Int32.toInt y2 = _) (rfl : Int32.toInt (i14 6) = _) (by omega) (by omega)
        refine v_istore_n (lv' := [(0, .ref (ad 0)), (1, .int x15), (2, .int y3), (3, .ref (ad c13))]) C [1, 0, 2, 3] dX8_allLines_31 rfl (by decide) rfl ?_
        obtain ⟨x16, ex16⟩ : ∃ y : Int32, y = y3 + 1 := ⟨_, rfl⟩
        have hx16 : x16.toInt = (y3.toInt + 1) := by rw [ex16]; exact ti_add (rfl : Int32.toInt y3 = _) (show (1 : Int32).toInt = 1 by decide) (by omega) (by omega)
        refine v_iinc (v := x16) (lv' := [(0, .ref (ad 0)), (1, .int x15), (2, .int x16), (3, .ref (ad c13))]) C 2 [1, 2, 0, 3] dX8_allLines_32 rfl (ex16.symm) (by decide) rfl ?_
        refine v_goto C 4 dX8_allLines_35 (by decide) ?_
        refine v_sub (lv' := [(0, .ref (ad 0)), (1, .int x15), (2, .int x16)]) [0, 1, 2] rfl ?_
        exact ih7 x15 x16  (by have := hx15; have := hx16; omega) (by have := hx15; have := hx16; omega) (by have := hx15; have := hx16; omega) (by have := hx15; have := hx16; omega)
  exact LP1 100000 0 0  (by have := (show (0 : Int32).toInt = 0 by decide); omega) (by have := (show (0 : Int32).toInt = 0 by decide); omega) (by have := (show (0 : Int32).toInt = 0 by decide); omega) (by have := (show (0 : Int32).toInt = 0 by decide); omega)

set_option maxRecDepth 20000 in
theorem t_X8_count (l : Launch) (G : Gl) (ad : Nat → Nat) {k : Nat} {E0 E : Nat → va_E} (hJ : J8 G ad k E0 E) (x : Int32) : CtI l G yX8_count cX8_count 2 .int 1 23 (98 + 9 * k) ad E [.ref (ad 0), .int x] (fun r E' => ((-2147483648 : Int) ≤ r.toInt ∧ r.toInt ≤ 2147483647) ∧ E = E') := by
  refine CtI.of (by decide) (Nat.le_of_ble_eq_true rfl) (fun X A C => ?_)
  refine v_sub (lv' := [(0, .ref (ad 0)), (1, .int x)]) [0, 1] rfl ?_
  have hk5 := hJ.1
  refine v_iload_n C 1 dX8_count_0 rfl rfl ?_
  have q1v : Int32.toInt x = x.toInt := (rfl : Int32.toInt x = _)
  rcases (show x.toInt = 0 ∨ x.toInt = 1 ∨ x.toInt = 2 ∨ x.toInt = 3 ∨ (x.toInt < 0 ∨ 3 < x.toInt) by omega) with q1 | q1 | q1 | q1 | q1
  · refine v_tableIn (off := 31) C 32 dX8_count_1 (by omega) (by omega) (by rw [q1v, q1]; rfl) (by decide) ?_
    refine v_aload_n C 0 dX8_count_32 rfl rfl ?_
    obtain ⟨io2, hE2⟩ := hJ.c0
    refine v_getr C 0 dX8_count_33 fX8_19 (by omega) hE2 rfl rfl ?_
    obtain ⟨i3, hE3, hb3⟩ := hJ.2.2.getO (b := 6) (by omega) rfl
    refine v_geti (v := i3 1) C 6 dX8_count_36 fX8_64 (by omega) hE3 rfl rfl ?_
    have hi3_1 : (k : Int) ≤ (i3 1).toInt ∧ (i3 1).toInt ≤ (k : Int) := hb3 1
    exact v_ret C dX8_count_39 rfl rfl ⟨(ti_any (i3 1)), rfl⟩
  · refine v_tableIn (off := 39) C 40 dX8_count_1 (by omega) (by omega) (by rw [q1v, q1]; rfl) (by decide) ?_
    refine v_aload_n C 0 dX8_count_40 rfl rfl ?_
    obtain ⟨io6, hE6⟩ := hJ.c0
    refine v_cVp C dX8_count_41 lX8_276 mX8_allLines 0 (by omega) hE6 (by decide) rfl (t_X8_allLines l G ad hJ ) ⟨by decide, by decide⟩ rfl (Nat.le_of_ble_eq_true rfl) ⟨Nat.zero_le _, Nat.zero_le _⟩ (fun r4 hp5 => ?_)
    exact v_ret C dX8_count_44 rfl rfl ⟨(ti_any r4), rfl⟩
  · refine v_tableIn (off := 44) C 45 dX8_count_1 (by omega) (by omega) (by rw [q1v, q1]; rfl) (by decide) ?_
    refine v_aload_n C 0 dX8_count_45 rfl rfl ?_
    obtain ⟨io7, hE7⟩ := hJ.c0
    refine v_geti (v := io7 6) C 0 dX8_count_46 fX8_144 (by omega) hE7 rfl rfl ?_
    exact v_ret C dX8_count_49 rfl rfl ⟨(ti_any (io7 6)), rfl⟩
  · refine v_tableIn (off := 49) C 50 dX8_count_1 (by omega) (by omega) (by rw [q1v, q1]; rfl) (by decide) ?_
    refine v_aload_n C 0 dX8_count_50 rfl rfl ?_
    obtain ⟨io8, hE8⟩ := hJ.c0
    refine v_getr C 0 dX8_count_51 fX8_12 (by omega) hE8 rfl rfl ?_
    obtain ⟨ic11, md11, ms11, ld11, ys11, hC111, hC211, hC311, hC411, hC511, hCP11, hCF11⟩ := hJ.cal
    have hCl11 := cal_b hCP11
    have hCy11 := cal_y hCP11
    refine v_cVp C dX8_count_54 lX8_280 mX0_days 1 (by omega) hC111 (by decide) rfl (c_days l G _ ad _ (by omega) hC111 hC211 hC311 hC411 hC511 hCP11 hCF11  ) ⟨by decide, by decide⟩ rfl (Nat.le_of_ble_eq_true rfl) ⟨Nat.zero_le _, Nat.zero_le _⟩ (fun r9 hp10 => ?_)
    have hr9 : (0 : Int) ≤ r9.toInt ∧ r9.toInt ≤ 48100 := by have q := cal_y hCP11; rw [hp10]; omega
    exact v_ret C dX8_count_57 rfl rfl ⟨(ti_any r9), rfl⟩
  · refine v_tableOut C 58 dX8_count_1 (by omega) (by decide) ?_
    refine v_iconst (v := (-1)) C dX8_count_58 (by decide) ?_
    exact v_ret C dX8_count_59 rfl rfl ⟨(ti_any (-1)), rfl⟩

set_option maxRecDepth 20000 in
theorem t_X8_rule (l : Launch) (G : Gl) (ad : Nat → Nat) {k : Nat} {E0 E : Nat → va_E} (hJ : J8 G ad k E0 E) (x : Int32) (y : Int32) (z : Int32) (u : Int32) (v : Int32) : CtI l G yX8_rule cX8_rule 13 .int 4 92 (98 + 9 * k) ad E [.ref (ad 0), .int x, .int y, .int z, .int u, .int v] (fun r E' => ((-2147483648 : Int) ≤ r.toInt ∧ r.toInt ≤ 2147483647) ∧ J8 G ad k E0 E') := by
  refine CtI.of (by decide) (Nat.le_of_ble_eq_true rfl) (fun X A C => ?_)
  refine v_sub (lv' := [(0, .ref (ad 0)), (1, .int x), (2, .int y), (3, .int z), (4, .int u), (5, .int v)]) [0, 1, 2, 3, 4, 5] rfl ?_
  have hk5 := hJ.1
  refine v_aload_n C 0 dX8_rule_0 rfl rfl ?_
  obtain ⟨io1, hE1⟩ := hJ.c0
  refine v_getr C 0 dX8_rule_1 fX8_19 (by omega) hE1 rfl rfl ?_
  refine v_iload_n C 1 dX8_rule_4 rfl rfl ?_
  obtain ⟨i4, hE4, hb4⟩ := hJ.2.2.getO (b := 6) (by omega) rfl
  refine v_cVr C dX8_rule_5 lX8_132 mX7_at 6 (by omega) hE4 (by decide) rfl (t_X7_at l G ad hJ x) ⟨by decide, by decide⟩ rfl (Nat.le_of_ble_eq_true rfl) ⟨Nat.zero_le _, Nat.zero_le _⟩ (fun r2 hp3 => ?_)
  rcases hp3 with ⟨hno5, rfl⟩ | ⟨i5x, hi5, hk5, rfl⟩
  · refine v_astoreN (lv' := [(0, .ref (ad 0)), (1, .int x), (2, .int y), (3, .int z), (4, .int u), (5, .int v), (6, .null)]) C [1, 2, 3, 4, 5, 6, 0] dX8_rule_8 (by decide) rfl ?_
    refine v_aloadN C 6 dX8_rule_10 rfl ?_
    refine v_ifnullN C 39 dX8_rule_12 (by decide) ?_
    refine v_iconst (v := (-1)) C dX8_rule_39 (by decide) ?_
    exact v_ret C dX8_rule_40 rfl rfl ⟨(ti_any (-1)), hJ⟩
  · obtain ⟨b5, eb5⟩ : ∃ q : Nat, q = 98 + 9 * i5x := ⟨_, rfl⟩
    rw [← eb5]
    have hb5 : ZC k b5 := ⟨_, hk5, eb5⟩
    have hb5n := hb5.n
    refine v_astore (lv' := [(0, .ref (ad 0)), (1, .int x), (2, .int y), (3, .int z), (4, .int u), (5, .int v), (6, .ref (ad b5))]) C [1, 2, 3, 4, 5, 6, 0] dX8_rule_8 (by decide) rfl ?_
    refine v_aload C 6 dX8_rule_10 rfl ?_
    refine v_ifnull C dX8_rule_12 ?_
    refine v_iload_n C 2 dX8_rule_15 rfl rfl ?_
    refine b_if_lt C 39 dX8_rule_16 (by decide) (rfl : Int32.toInt y = _) (fun c6 => ?_) (fun c6 => ?_)
    · refine v_iconst (v := (-1)) C dX8_rule_39 (by decide) ?_
      exact v_ret C dX8_rule_40 rfl rfl ⟨(ti_any (-1)), hJ⟩
    · refine v_iload_n C 2 dX8_rule_19 rfl rfl ?_
      refine v_bipush (v := 100) C dX8_rule_20 (by decide) ?_
      refine v_idiv C dX8_rule_22 (by decide) ?_
      have := ti_any y
      refine v_top (fun x7 ex7 => ?_)
      have hx7 : x7.toInt = (y.toInt / 100) := by rw [ex7]; exact ti_div (rfl : Int32.toInt y = _) (show (100 : Int32).toInt = 100 by decide) (by omega) (by omega)
      refine v_bipush (v := 100) C dX8_rule_23 (by decide) ?_
      refine b_icmp_ge C 39 dX8_rule_25 (by decide) hx7 (show (100 : Int32).toInt = 100 by decide) (fun c8 => ?_) (fun c8 => ?_)
      · refine v_iconst (v := (-1)) C dX8_rule_39 (by decide) ?_
        exact v_ret C dX8_rule_40 rfl rfl ⟨(ti_any (-1)), hJ⟩
      · refine v_iload_n C 2 dX8_rule_28 rfl rfl ?_
        refine v_bipush (v := 100) C dX8_rule_29 (by decide) ?_
        refine v_idiv C dX8_rule_31 (by decide) ?_
        have := ti_any y
        refine v_top (fun x9 ex9 => ?_)
        have hx9 : x9.toInt = (y.toInt / 100) := by rw [ex9]; exact ti_div (rfl : Int32.toInt y = _) (show (100 : Int32).toInt = 100 by decide) (by omega) (by omega)
        refine v_iload_n C 2 dX8_rule_32 rfl rfl ?_
        refine v_bipush (v := 100) C dX8_rule_33 (by decide) ?_
        refine v_irem C dX8_rule_35 (by decide) ?_
        have := ti_any y
        refine v_top (fun x10 ex10 => ?_)
        have hx10 : x10.toInt = (y.toInt % 100) := by rw [ex10]; exact ti_rem (rfl : Int32.toInt y = _) (show (100 : Int32).toInt = 100 by decide) (by omega) (by omega)
        refine b_icmp_le C 41 dX8_rule_36 (by decide) hx9 hx10 (fun c11 => ?_) (fun c11 => ?_)
        · refine v_iload_n C 3 dX8_rule_41 rfl rfl ?_
          refine v_sipush (v := 1000) C dX8_rule_42 (by decide) ?_
          refine v_idiv C dX8_rule_45 (by decide) ?_
          refine v_top (fun x12 ex12 => ?_)
          have hx12 : (-2147483 : Int) ≤ x12.toInt ∧ x12.toInt ≤ 2147483 := by rw [ex12]; exact ti_tdb (show (1000 : Int32).toInt = 1000 by decide) (by decide)
          refine v_istore (lv' := [(0, .ref (ad 0)), (1, .int x), (2, .int y), (3, .int z), (4, .int u), (5, .int v), (6, .ref (ad b5)), (7, .int x12)]) C [1, 2, 3, 4, 5, 6, 7, 0] dX8_rule_46 (by decide) rfl ?_
          refine v_iload_n C 3 dX8_rule_48 rfl rfl ?_
          refine v_bipush (v := 10) C dX8_rule_49 (by decide) ?_
          refine v_idiv C dX8_rule_51 (by decide) ?_
          refine v_top (fun x13 ex13 => ?_)
          have hx13 : (-214748364 : Int) ≤ x13.toInt ∧ x13.toInt ≤ 214748364 := by rw [ex13]; exact ti_tdb (show (10 : Int32).toInt = 10 by decide) (by decide)
          refine v_bipush (v := 100) C dX8_rule_52 (by decide) ?_
          refine v_irem C dX8_rule_54 (by decide) ?_
          refine v_top (fun x14 _ => ?_)
          refine v_istore (lv' := [(0, .ref (ad 0)), (1, .int x), (2, .int y), (3, .int z), (4, .int u), (5, .int v), (6, .ref (ad b5)), (7, .int x12), (8, .int x14)]) C [1, 2, 3, 4, 5, 6, 7, 8, 0] dX8_rule_55 (by decide) rfl ?_
          refine v_iload_n C 3 dX8_rule_57 rfl rfl ?_
          refine v_bipush (v := 10) C dX8_rule_58 (by decide) ?_
          refine v_irem C dX8_rule_60 (by decide) ?_
          refine v_top (fun x15 _ => ?_)
          refine v_istore (lv' := [(0, .ref (ad 0)), (1, .int x), (2, .int y), (3, .int z), (4, .int u), (5, .int v), (6, .ref (ad b5)), (7, .int x12), (8, .int x14), (9, .int x15)]) C [1, 2, 3, 4, 5, 6, 7, 8, 9, 0] dX8_rule_61 (by decide) rfl ?_
          refine v_iload_n C 3 dX8_rule_63 rfl rfl ?_
          refine b_if_lt C 109 dX8_rule_64 (by decide) (rfl : Int32.toInt z = _) (fun c16 => ?_) (fun c16 => ?_)
          · refine v_iconst (v := (-1)) C dX8_rule_109 (by decide) ?_
            exact v_ret C dX8_rule_110 rfl rfl ⟨(ti_any (-1)), hJ⟩
          · refine v_iload C 7 dX8_rule_67 rfl ?_
            refine v_cSp C dX8_rule_69 lX8_60 mX8_isMonth (c_isMonth l G _ ad _ x12) ⟨by decide, by decide⟩ rfl (Nat.le_of_ble_eq_true rfl) ⟨Nat.zero_le _, Nat.zero_le _⟩ (fun r17 hp18 => ?_)
            rcases hp18 with ⟨rfl, hp18⟩ | ⟨rfl, hp18⟩
            · refine b_if_eq C 109 dX8_rule_72 (by decide) (show (1 : Int32).toInt = 1 by decide) (fun c19 => absurd c19 (by decide)) (fun c19 => ?_)
              refine v_aload_n C 0 dX8_rule_75 rfl rfl ?_
              refine v_getr C 0 dX8_rule_76 fX8_12 (by omega) hE1 rfl rfl ?_
              refine v_iload C 8 dX8_rule_79 rfl ?_
              obtain ⟨ic22, md22, ms22, ld22, ys22, hC122, hC222, hC322, hC422, hC522, hCP22, hCF22⟩ := hJ.cal
              have hCl22 := cal_b hCP22
              have hCy22 := cal_y hCP22
              refine v_cVp C dX8_rule_81 lX8_116 mX0_isWeekday 1 (by omega) hC122 (by decide) rfl (c_isWeekday l G _ ad _ (by omega) hC122 hC222 hC322 hC422 hC522 hCP22 hCF22 x14) ⟨by decide, by decide⟩ rfl (Nat.le_of_ble_eq_true rfl) ⟨Nat.zero_le _, Nat.zero_le _⟩ (fun r20 hp21 => ?_)
              rcases hp21 with ⟨rfl, hp21⟩ | ⟨rfl, hp21⟩
              · refine b_if_eq C 109 dX8_rule_84 (by decide) (show (1 : Int32).toInt = 1 by decide) (fun c23 => absurd c23 (by decide)) (fun c23 => ?_)
                refine v_iload C 9 dX8_rule_87 rfl ?_
                refine v_iconst (v := 4) C dX8_rule_89 (by decide) ?_
                refine b_icmp_gt C 109 dX8_rule_90 (by decide) (rfl : Int32.toInt x15 = _) (show (4 : Int32).toInt = 4 by decide) (fun c24 => ?_) (fun c24 => ?_)
                · refine v_iconst (v := (-1)) C dX8_rule_109 (by decide) ?_
                  exact v_ret C dX8_rule_110 rfl rfl ⟨(ti_any (-1)), hJ⟩
                · refine v_iload C 4 dX8_rule_93 rfl ?_
                  refine v_cSp C dX8_rule_95 lX8_136 mX8_isMinute (c_isMinute l G _ ad _ u) ⟨by decide, by decide⟩ rfl (Nat.le_of_ble_eq_true rfl) ⟨Nat.zero_le _, Nat.zero_le _⟩ (fun r25 hp26 => ?_)
                  rcases hp26 with ⟨rfl, hp26⟩ | ⟨rfl, hp26⟩
                  · refine b_if_eq C 109 dX8_rule_98 (by decide) (show (1 : Int32).toInt = 1 by decide) (fun c27 => absurd c27 (by decide)) (fun c27 => ?_)
                    refine v_iload C 5 dX8_rule_101 rfl ?_
                    refine v_cSp C dX8_rule_103 lX8_123 mX8_isOffset (c_isOffset l G _ ad _ v) ⟨by decide, by decide⟩ rfl (Nat.le_of_ble_eq_true rfl) ⟨Nat.zero_le _, Nat.zero_le _⟩ (fun r28 hp29 => ?_)
                    rcases hp29 with ⟨rfl, hp29⟩ | ⟨rfl, hp29⟩
                    · refine b_if_ne C 111 dX8_rule_106 (by decide) (show (1 : Int32).toInt = 1 by decide) (fun c30 => ?_) (fun c30 => absurd c30 (by decide))
                      refine v_aload C 6 dX8_rule_111 rfl ?_
                      obtain ⟨i31, hE31, hb31⟩ := hJ.2.2.getO (b := b5) (by omega) hb5.t0
                      refine v_geti (v := i31 8) C b5 dX8_rule_113 fX8_139 (by omega) hE31 rfl rfl ?_
                      have hi31_8 : (0 : Int) ≤ (i31 8).toInt ∧ (i31 8).toInt ≤ 8 := hb31 8
                      refine v_bipush (v := 8) C dX8_rule_116 (by decide) ?_
                      refine b_icmp_lt C 124 dX8_rule_118 (by decide) (rfl : Int32.toInt (i31 8) = _) (show (8 : Int32).toInt = 8 by decide) (fun c32 => ?_) (fun c32 => ?_)
                      · refine v_aload C 6 dX8_rule_124 rfl ?_
                        refine v_aload_n C 0 dX8_rule_126 rfl rfl ?_
                        refine v_geti (v := io1 6) C 0 dX8_rule_127 fX8_144 (by omega) hE1 rfl rfl ?_
                        refine v_iload C 5 dX8_rule_130 rfl ?_
                        refine v_cVi C dX8_rule_132 lX8_147 mX6_tell b5 (by omega) hE31 (by decide) rfl (t_X6_tell l G ad hJ b5 hb5 (io1 6) v) ⟨by decide, by decide⟩ rfl (Nat.le_of_ble_eq_true rfl) ⟨Nat.zero_le _, Nat.zero_le _⟩ (fun r33 E34 hp35 => ?_)
                        obtain ⟨hp35, hJ36⟩ := hp35
                        refine v_istore (lv' := [(0, .ref (ad 0)), (1, .int x), (2, .int y), (3, .int z), (4, .int u), (5, .int v), (6, .ref (ad b5)), (7, .int x12), (8, .int x14), (9, .int x15), (10, .int r33)]) C [1, 2, 3, 4, 5, 6, 7, 8, 9, 10, 0] dX8_rule_135 (by decide) rfl ?_
                        refine v_iload_n C 2 dX8_rule_137 rfl rfl ?_
                        refine v_bipush (v := 100) C dX8_rule_138 (by decide) ?_
                        refine v_idiv C dX8_rule_140 (by decide) ?_
                        have := ti_any y
                        refine v_top (fun x37 ex37 => ?_)
                        have hx37 : x37.toInt = (y.toInt / 100) := by rw [ex37]; exact ti_div (rfl : Int32.toInt y = _) (show (100 : Int32).toInt = 100 by decide) (by omega) (by omega)
                        refine v_istore (lv' := [(0, .ref (ad 0)), (1, .int x), (2, .int y), (3, .int z), (4, .int u), (5, .int v), (6, .ref (ad b5)), (7, .int x12), (8, .int x14), (9, .int x15), (10, .int r33), (11, .int x37)]) C [1, 2, 3, 4, 5, 6, 7, 8, 9, 10, 11, 0] dX8_rule_141 (by decide) rfl ?_
                        have LP38 : ∀ (t : Nat) (E40 : Nat → va_E) (y39 : Int32), J8 G ad k E0 E40 → ((0 : Int) ≤ y39.toInt ∧ y39.toInt ≤ 100) → 101 - y39.toInt < (t : Int) → V X G A 13 (QI X G A (98 + 9 * k) ad (fun r E' => ((-2147483648 : Int) ≤ r.toInt ∧ r.toInt ≤ 2147483647) ∧ J8 G ad k E0 E')) (98 + 9 * k) ad 0 0 E40 143 [(0, .ref (ad 0)), (2, .int y), (4, .int u), (6, .ref (ad b5)), (7, .int x12), (8, .int x14), (9, .int x15), (10, .int r33), (11, .int y39)] [] := by
                          intro t44
                          induction t44 with
                          | zero => intro E40 y39 hJ41 hy39 hm43; exfalso; omega
                          | succ t44 ih42 =>
                            intro E40 y39 hJ41 hy39 hm43
                            refine v_iload C 8 dX8_rule_143 rfl ?_
                            refine v_iload_n C 1 dX8_rule_145 rfl rfl ?_
                            refine v_bipush (v := 100) C dX8_rule_146 (by decide) ?_
                            refine v_irem C dX8_rule_148 (by decide) ?_
                            have := ti_any y
                            refine v_top (fun x45 ex45 => ?_)
                            have hx45 : x45.toInt = (y.toInt % 100) := by rw [ex45]; exact ti_rem (rfl : Int32.toInt y = _) (show (100 : Int32).toInt = 100 by decide) (by omega) (by omega)
                            refine b_icmp_gt C 204 dX8_rule_149 (by decide) (rfl : Int32.toInt y39 = _) hx45 (fun c46 => ?_) (fun c46 => ?_)
                            · refine v_aload_n C 0 dX8_rule_204 rfl rfl ?_
                              obtain ⟨io47, hE47⟩ := hJ41.c0
                              refine v_getr C 0 dX8_rule_205 fX8_33 (by omega) hE47 rfl rfl ?_
                              obtain ⟨i52, hE52, hb52⟩ := hJ41.2.2.getO (b := 45) (by omega) rfl
                              refine v_cVv C dX8_rule_208 lX8_126 mX4_forget 45 (by omega) hE52 (by decide) rfl (t_X4_forget l G ad hJ41 ) ⟨by decide, by decide⟩ rfl (Nat.le_of_ble_eq_true rfl) ⟨Nat.zero_le _, Nat.zero_le _⟩ (fun E49 hJ51 => ?_)
                              refine v_aload C 3 dX8_rule_211 rfl ?_
                              obtain ⟨i53, hE53, hb53⟩ := hJ51.2.2.getO (b := b5) (by omega) hb5.t0
                              refine v_geti (v := i53 8) C b5 dX8_rule_213 fX8_139 (by omega) hE53 rfl rfl ?_
                              have hi53_8 : (0 : Int) ≤ (i53 8).toInt ∧ (i53 8).toInt ≤ 8 := hb53 8
                              exact v_ret C dX8_rule_216 rfl rfl ⟨(ti_any (i53 8)), hJ51⟩
                            · refine v_aload_n C 0 dX8_rule_152 rfl rfl ?_
                              obtain ⟨io54, hE54⟩ := hJ41.c0
                              refine v_getr C 0 dX8_rule_153 fX8_12 (by omega) hE54 rfl rfl ?_
                              refine v_iload C 8 dX8_rule_156 rfl ?_
                              refine v_iload C 4 dX8_rule_158 rfl ?_
                              refine v_iload C 5 dX8_rule_160 rfl ?_
                              refine v_iload C 6 dX8_rule_162 rfl ?_
                              obtain ⟨ic57, md57, ms57, ld57, ys57, hC157, hC257, hC357, hC457, hC557, hCP57, hCF57⟩ := hJ41.cal
                              have hCl57 := cal_b hCP57
                              have hCy57 := cal_y hCP57
                              refine v_cVp C dX8_rule_164 lX8_119 mX0_nthWeekday 1 (by omega) hC157 (by decide) rfl (t_X0_nthWeekday l G ad hJ41 y39 (show (0 : Int) ≤ Int32.toInt y39 ∧ Int32.toInt y39 ≤ 99 by omega) x12 (show (0 : Int) ≤ Int32.toInt x12 ∧ Int32.toInt x12 ≤ 11 by omega) x14 x15) ⟨by decide, by decide⟩ rfl (Nat.le_of_ble_eq_true rfl) ⟨Nat.zero_le _, Nat.zero_le _⟩ (fun r55 hp56 => ?_)
                              refine v_istore (lv' := [(0, .ref (ad 0)), (2, .int y), (4, .int u), (6, .ref (ad b5)), (7, .int x12), (8, .int x14), (9, .int x15), (10, .int r33), (11, .int y39), (12, .int r55)]) C [1, 2, 3, 4, 5, 6, 7, 8, 9, 0] dX8_rule_167 (by decide) rfl ?_
                              refine v_iload C 9 dX8_rule_169 rfl ?_
                              refine v_iconst (v := (-1)) C dX8_rule_171 (by decide) ?_
                              refine b_icmp_eq C 198 dX8_rule_172 (by decide) (rfl : Int32.toInt r55 = _) (show ((-1) : Int32).toInt = (-1) by decide) (fun c58 => ?_) (fun c58 => ?_)
                              · obtain ⟨x59, ex59⟩ : ∃ y : Int32, y = y39 + 1 := ⟨_, rfl⟩
                                have hx59 : x59.toInt = (y39.toInt + 1) := by rw [ex59]; exact ti_add (rfl : Int32.toInt y39 = _) (show (1 : Int32).toInt = 1 by decide) (by omega) (by omega)
                                refine v_iinc (v := x59) (lv' := [(0, .ref (ad 0)), (2, .int y), (4, .int u), (6, .ref (ad b5)), (7, .int x12), (8, .int x14), (9, .int x15), (10, .int r33), (11, .int x59), (12, .int r55)]) C 8 [1, 2, 3, 4, 5, 6, 7, 8, 0, 9] dX8_rule_198 rfl (ex59.symm) (by decide) rfl ?_
                                refine v_goto C 143 dX8_rule_201 (by decide) ?_
                                refine v_sub (lv' := [(0, .ref (ad 0)), (2, .int y), (4, .int u), (6, .ref (ad b5)), (7, .int x12), (8, .int x14), (9, .int x15), (10, .int r33), (11, .int x59)]) [0, 1, 2, 3, 4, 5, 6, 7, 8] rfl ?_
                                exact ih42 _ x59 hJ41 (by have := hx59; omega) (by have := hx59; omega)
                              · refine v_aload C 3 dX8_rule_175 rfl ?_
                                obtain ⟨i60, hE60, hb60⟩ := hJ41.2.2.getO (b := b5) (by omega) hb5.t0
                                refine v_getr C b5 dX8_rule_177 fX8_150 (by omega) hE60 rfl rfl ?_
                                refine v_iload C 7 dX8_rule_180 rfl ?_
                                refine v_bipush (v := 100) C dX8_rule_182 (by decide) ?_
                                refine v_imul C dX8_rule_184 ?_
                                refine v_top (fun x61 ex61 => ?_)
                                have hx61 : x61.toInt = (r33.toInt * 100) := by rw [ex61]; exact ti_mul (rfl : Int32.toInt r33 = _) (show (100 : Int32).toInt = 100 by decide) (by omega) (by omega)
                                refine v_iload C 8 dX8_rule_185 rfl ?_
                                refine v_iadd C dX8_rule_187 ?_
                                refine v_top (fun x62 ex62 => ?_)
                                have hx62 : x62.toInt = ((r33.toInt * 100) + y39.toInt) := by rw [ex62]; exact ti_add hx61 (rfl : Int32.toInt y39 = _) (by omega) (by omega)
                                refine v_iload C 9 dX8_rule_188 rfl ?_
                                refine v_sipush (v := 1440) C dX8_rule_190 (by decide) ?_
                                refine v_imul C dX8_rule_193 ?_
                                refine v_top (fun x63 _ => ?_)
                                refine v_iload C 2 dX8_rule_194 rfl ?_
                                refine v_iadd C dX8_rule_196 ?_
                                refine v_top (fun x64 _ => ?_)
                                obtain ⟨f65, hE65, hb65⟩ := hJ41.2.2.getA (b := (b5 + 3)) (by omega) hb5.t3
                                refine v_ast C (b5 + 3) dX8_rule_197 (by omega) hE65 (ti_in hx62 (by omega) (by omega)) (fun E66 hE66_b53 oE66 => ?_)
                                rw [ti_cl hx62] at hE66_b53
                                have hE66_0 := (oE66 0 (by omega)).trans hE54
                                have hE66_1 := (oE66 1 (by omega)).trans hC157
                                have hE66_2 := (oE66 2 (by omega)).trans hC257
                                have hE66_3 := (oE66 3 (by omega)).trans hC357
                                have hE66_4 := (oE66 4 (by omega)).trans hC457
                                have hE66_5 := (oE66 5 (by omega)).trans hC557
                                have hE66_b5 := (oE66 b5 (by omega)).trans hE60
                                have hJ67 := hJ41.with (hJ41.2.2.setA hb5.t3 (by unfold P8; omega) hb65 (ti_any x64) hE66_b53 oE66)
                                obtain ⟨x68, ex68⟩ : ∃ y : Int32, y = y39 + 1 := ⟨_, rfl⟩
                                have hx68 : x68.toInt = (y39.toInt + 1) := by rw [ex68]; exact ti_add (rfl : Int32.toInt y39 = _) (show (1 : Int32).toInt = 1 by decide) (by omega) (by omega)
                                refine v_iinc (v := x68) (lv' := [(0, .ref (ad 0)), (2, .int y), (4, .int u), (6, .ref (ad b5)), (7, .int x12), (8, .int x14), (9, .int x15), (10, .int r33), (11, .int x68), (12, .int r55)]) C 8 [1, 2, 3, 4, 5, 6, 7, 8, 0, 9] dX8_rule_198 rfl (ex68.symm) (by decide) rfl ?_
                                refine v_goto C 143 dX8_rule_201 (by decide) ?_
                                refine v_sub (lv' := [(0, .ref (ad 0)), (2, .int y), (4, .int u), (6, .ref (ad b5)), (7, .int x12), (8, .int x14), (9, .int x15), (10, .int r33), (11, .int x68)]) [0, 1, 2, 3, 4, 5, 6, 7, 8] rfl ?_
                                exact ih42 _ x68 hJ67 (by have := hx68; omega) (by have := hx68; omega)
                        refine v_sub (lv' := [(0, .ref (ad 0)), (2, .int y), (4, .int u), (6, .ref (ad b5)), (7, .int x12), (8, .int x14), (9, .int x15), (10, .int r33), (11, .int x37)]) [0, 2, 4, 6, 7, 8, 9, 10, 11] rfl ?_
                        exact LP38 100000 _ x37 hJ36 (by have := hx37; omega) (by have := hx37; omega)
                      · refine v_bipush (v := (-2)) C dX8_rule_121 (by decide) ?_
                        exact v_ret C dX8_rule_123 rfl rfl ⟨(ti_any (-2)), hJ⟩
                    · refine b_if_ne C 111 dX8_rule_106 (by decide) (show (0 : Int32).toInt = 0 by decide) (fun c69 => absurd c69 (by decide)) (fun c69 => ?_)
                      refine v_iconst (v := (-1)) C dX8_rule_109 (by decide) ?_
                      exact v_ret C dX8_rule_110 rfl rfl ⟨(ti_any (-1)), hJ⟩
                  · refine b_if_eq C 109 dX8_rule_98 (by decide) (show (0 : Int32).toInt = 0 by decide) (fun c70 => ?_) (fun c70 => absurd c70 (by decide))
                    refine v_iconst (v := (-1)) C dX8_rule_109 (by decide) ?_
                    exact v_ret C dX8_rule_110 rfl rfl ⟨(ti_any (-1)), hJ⟩
              · refine b_if_eq C 109 dX8_rule_84 (by decide) (show (0 : Int32).toInt = 0 by decide) (fun c71 => ?_) (fun c71 => absurd c71 (by decide))
                refine v_iconst (v := (-1)) C dX8_rule_109 (by decide) ?_
                exact v_ret C dX8_rule_110 rfl rfl ⟨(ti_any (-1)), hJ⟩
            · refine b_if_eq C 109 dX8_rule_72 (by decide) (show (0 : Int32).toInt = 0 by decide) (fun c72 => ?_) (fun c72 => absurd c72 (by decide))
              refine v_iconst (v := (-1)) C dX8_rule_109 (by decide) ?_
              exact v_ret C dX8_rule_110 rfl rfl ⟨(ti_any (-1)), hJ⟩
        · refine v_iconst (v := (-1)) C dX8_rule_39 (by decide) ?_
          exact v_ret C dX8_rule_40 rfl rfl ⟨(ti_any (-1)), hJ⟩

set_option maxRecDepth 20000 in
theorem t_X8_meetings (l : Launch) (G : Gl) (ad : Nat → Nat) {k : Nat} {E0 E : Nat → va_E} (hJ : J8 G ad k E0 E) (x : Int32) (y : Int32) (z : Int32) (u : Int32) (v : Int32) : CtI l G yX8_meetings cX8_meetings 12 .int 4 95 (98 + 9 * k) ad E [.ref (ad 0), .int x, .int y, .int z, .int u, .int v] (fun r E' => ((-2147483648 : Int) ≤ r.toInt ∧ r.toInt ≤ 2147483647) ∧ J8 G ad k E0 E') := by
  refine CtI.of (by decide) (Nat.le_of_ble_eq_true rfl) (fun X A C => ?_)
  refine v_sub (lv' := [(0, .ref (ad 0)), (1, .int x), (2, .int y), (3, .int z), (4, .int u), (5, .int v)]) [0, 1, 2, 3, 4, 5] rfl ?_
  have hk5 := hJ.1
  refine v_aload_n C 0 dX8_meetings_0 rfl rfl ?_
  refine v_iload_n C 1 dX8_meetings_1 rfl rfl ?_
  obtain ⟨io5, hE5⟩ := hJ.c0
  refine v_cVq C dX8_meetings_2 lX8_153 mX8_freshZone 0 (by omega) hE5 (by decide) rfl (t_X8_freshZone l G ad hJ x) ⟨by decide, by decide⟩ rfl (Nat.le_of_ble_eq_true rfl) ⟨Nat.zero_le _, Nat.zero_le _⟩ (fun r1 E3 hp2 => ?_)
  obtain ⟨hp2, hJ4⟩ := hp2
  rcases hp2 with ⟨hno6, rfl⟩ | ⟨i6x, hi6, hk6, rfl⟩
  · refine v_astoreN (lv' := [(0, .ref (ad 0)), (1, .int x), (2, .int y), (3, .int z), (4, .int u), (5, .int v), (6, .null)]) C [1, 2, 3, 4, 5, 6, 0] dX8_meetings_5 (by decide) rfl ?_
    refine v_aloadN C 6 dX8_meetings_7 rfl ?_
    refine v_ifnullN C 40 dX8_meetings_9 (by decide) ?_
    refine v_iconst (v := (-1)) C dX8_meetings_40 (by decide) ?_
    exact v_ret C dX8_meetings_41 rfl rfl ⟨(ti_any (-1)), hJ4⟩
  · obtain ⟨b6, eb6⟩ : ∃ q : Nat, q = 98 + 9 * i6x := ⟨_, rfl⟩
    rw [← eb6]
    have hb6 : ZC k b6 := ⟨_, hk6, eb6⟩
    have hb6n := hb6.n
    refine v_astore (lv' := [(0, .ref (ad 0)), (1, .int x), (2, .int y), (3, .int z), (4, .int u), (5, .int v), (6, .ref (ad b6))]) C [1, 2, 3, 4, 5, 6, 0] dX8_meetings_5 (by decide) rfl ?_
    refine v_aload C 6 dX8_meetings_7 rfl ?_
    refine v_ifnull C dX8_meetings_9 ?_
    refine v_iload_n C 2 dX8_meetings_12 rfl rfl ?_
    refine b_if_lt C 40 dX8_meetings_13 (by decide) (rfl : Int32.toInt y = _) (fun c7 => ?_) (fun c7 => ?_)
    · refine v_iconst (v := (-1)) C dX8_meetings_40 (by decide) ?_
      exact v_ret C dX8_meetings_41 rfl rfl ⟨(ti_any (-1)), hJ4⟩
    · refine v_iload_n C 2 dX8_meetings_16 rfl rfl ?_
      refine v_bipush (v := 10) C dX8_meetings_17 (by decide) ?_
      refine v_idiv C dX8_meetings_19 (by decide) ?_
      have := ti_any y
      refine v_top (fun x8 ex8 => ?_)
      have hx8 : x8.toInt = (y.toInt / 10) := by rw [ex8]; exact ti_div (rfl : Int32.toInt y = _) (show (10 : Int32).toInt = 10 by decide) (by omega) (by omega)
      refine v_cSp C dX8_meetings_20 lX8_136 mX8_isMinute (c_isMinute l G _ ad _ x8) ⟨by decide, by decide⟩ rfl (Nat.le_of_ble_eq_true rfl) ⟨Nat.zero_le _, Nat.zero_le _⟩ (fun r9 hp10 => ?_)
      rcases hp10 with ⟨rfl, hp10⟩ | ⟨rfl, hp10⟩
      · refine b_if_eq C 40 dX8_meetings_23 (by decide) (show (1 : Int32).toInt = 1 by decide) (fun c11 => absurd c11 (by decide)) (fun c11 => ?_)
        refine v_aload_n C 0 dX8_meetings_26 rfl rfl ?_
        obtain ⟨io12, hE12⟩ := hJ4.c0
        refine v_getr C 0 dX8_meetings_27 fX8_12 (by omega) hE12 rfl rfl ?_
        refine v_iload_n C 2 dX8_meetings_30 rfl rfl ?_
        refine v_bipush (v := 10) C dX8_meetings_31 (by decide) ?_
        refine v_irem C dX8_meetings_33 (by decide) ?_
        have := ti_any y
        refine v_top (fun x13 ex13 => ?_)
        have hx13 : x13.toInt = (y.toInt % 10) := by rw [ex13]; exact ti_rem (rfl : Int32.toInt y = _) (show (10 : Int32).toInt = 10 by decide) (by omega) (by omega)
        obtain ⟨ic16, md16, ms16, ld16, ys16, hC116, hC216, hC316, hC416, hC516, hCP16, hCF16⟩ := hJ4.cal
        have hCl16 := cal_b hCP16
        have hCy16 := cal_y hCP16
        refine v_cVp C dX8_meetings_34 lX8_116 mX0_isWeekday 1 (by omega) hC116 (by decide) rfl (c_isWeekday l G _ ad _ (by omega) hC116 hC216 hC316 hC416 hC516 hCP16 hCF16 x13) ⟨by decide, by decide⟩ rfl (Nat.le_of_ble_eq_true rfl) ⟨Nat.zero_le _, Nat.zero_le _⟩ (fun r14 hp15 => ?_)
        rcases hp15 with ⟨rfl, hp15⟩ | ⟨rfl, hp15⟩
        · refine b_if_ne C 42 dX8_meetings_37 (by decide) (show (1 : Int32).toInt = 1 by decide) (fun c17 => ?_) (fun c17 => absurd c17 (by decide))
          refine v_aload_n C 0 dX8_meetings_42 rfl rfl ?_
          refine v_getr C 0 dX8_meetings_43 fX8_12 (by omega) hE12 rfl rfl ?_
          refine v_iload_n C 3 dX8_meetings_46 rfl rfl ?_
          refine v_cVp C dX8_meetings_47 lX8_99 mX0_has 1 (by omega) hC116 (by decide) rfl (c_has l G _ ad _ (by omega) hC116 hC216 hC316 hC416 hC516 hCP16 hCF16 z) ⟨by decide, by decide⟩ rfl (Nat.le_of_ble_eq_true rfl) ⟨Nat.zero_le _, Nat.zero_le _⟩ (fun r18 hp19 => ?_)
          rcases hp19 with ⟨rfl, hp19⟩ | ⟨rfl, hp19⟩
          · refine b_if_eq C 92 dX8_meetings_50 (by decide) (show (1 : Int32).toInt = 1 by decide) (fun c20 => absurd c20 (by decide)) (fun c20 => ?_)
            refine v_aload_n C 0 dX8_meetings_53 rfl rfl ?_
            refine v_getr C 0 dX8_meetings_54 fX8_12 (by omega) hE12 rfl rfl ?_
            refine v_iload C 4 dX8_meetings_57 rfl ?_
            refine v_cVp C dX8_meetings_59 lX8_99 mX0_has 1 (by omega) hC116 (by decide) rfl (c_has l G _ ad _ (by omega) hC116 hC216 hC316 hC416 hC516 hCP16 hCF16 u) ⟨by decide, by decide⟩ rfl (Nat.le_of_ble_eq_true rfl) ⟨Nat.zero_le _, Nat.zero_le _⟩ (fun r21 hp22 => ?_)
            rcases hp22 with ⟨rfl, hp22⟩ | ⟨rfl, hp22⟩
            · refine b_if_eq C 92 dX8_meetings_62 (by decide) (show (1 : Int32).toInt = 1 by decide) (fun c23 => absurd c23 (by decide)) (fun c23 => ?_)
              refine v_iload C 4 dX8_meetings_65 rfl ?_
              refine v_iload_n C 3 dX8_meetings_67 rfl rfl ?_
              refine b_icmp_lt C 92 dX8_meetings_68 (by decide) (rfl : Int32.toInt u = _) (rfl : Int32.toInt z = _) (fun c24 => ?_) (fun c24 => ?_)
              · refine v_iconst (v := (-1)) C dX8_meetings_92 (by decide) ?_
                exact v_ret C dX8_meetings_93 rfl rfl ⟨(ti_any (-1)), hJ4⟩
              · refine v_iload C 4 dX8_meetings_71 rfl ?_
                refine v_iload_n C 3 dX8_meetings_73 rfl rfl ?_
                refine v_isub C dX8_meetings_74 ?_
                refine v_top (fun x25 ex25 => ?_)
                have hx25 : x25.toInt = (u.toInt - z.toInt) := by rw [ex25]; exact ti_sub (rfl : Int32.toInt u = _) (rfl : Int32.toInt z = _) (by omega) (by omega)
                refine v_sipush (v := 4000) C dX8_meetings_75 (by decide) ?_
                refine b_icmp_gt C 92 dX8_meetings_78 (by decide) hx25 (show (4000 : Int32).toInt = 4000 by decide) (fun c26 => ?_) (fun c26 => ?_)
                · refine v_iconst (v := (-1)) C dX8_meetings_92 (by decide) ?_
                  exact v_ret C dX8_meetings_93 rfl rfl ⟨(ti_any (-1)), hJ4⟩
                · refine v_iload C 5 dX8_meetings_81 rfl ?_
                  refine b_if_lt C 92 dX8_meetings_83 (by decide) (rfl : Int32.toInt v = _) (fun c27 => ?_) (fun c27 => ?_)
                  · refine v_iconst (v := (-1)) C dX8_meetings_92 (by decide) ?_
                    exact v_ret C dX8_meetings_93 rfl rfl ⟨(ti_any (-1)), hJ4⟩
                  · refine v_iload C 5 dX8_meetings_86 rfl ?_
                    refine v_iconst (v := 2) C dX8_meetings_88 (by decide) ?_
                    refine b_icmp_le C 94 dX8_meetings_89 (by decide) (rfl : Int32.toInt v = _) (show (2 : Int32).toInt = 2 by decide) (fun c28 => ?_) (fun c28 => ?_)
                    · refine v_iconst (v := 1) C dX8_meetings_94 (by decide) ?_
                      refine v_aload_n C 0 dX8_meetings_95 rfl rfl ?_
                      refine v_getr C 0 dX8_meetings_96 fX8_12 (by omega) hE12 rfl rfl ?_
                      refine v_geti (v := ic16 7) C 1 dX8_meetings_99 fX8_83 (by omega) hC116 rfl rfl ?_
                      refine v_mmax C dX8_meetings_102 lX8_268 mJ9_max_7cf53.2.2.1 mJ9_max_7cf53.2.1 mJ9_max_7cf53.1 ⟨by decide, Nat.le_of_ble_eq_true rfl⟩ ⟨Nat.zero_le _, Nat.zero_le _⟩ ?_
                      refine v_top (fun x29 ex29 => ?_)
                      have hx29 : 1 ≤ x29.toInt ∧ (ic16 7).toInt ≤ x29.toInt ∧ (x29.toInt = 1 ∨ x29.toInt = (ic16 7).toInt) := by rw [ex29]; exact mmax_b (show (1 : Int32).toInt = 1 by decide) (rfl : Int32.toInt (ic16 7) = _)
                      refine v_istore (lv' := [(0, .ref (ad 0)), (1, .int x), (2, .int y), (3, .int z), (4, .int u), (5, .int v), (6, .ref (ad b6)), (7, .int x29)]) C [1, 2, 3, 4, 5, 6, 7, 0] dX8_meetings_105 (by decide) rfl ?_
                      refine v_iload_n C 3 dX8_meetings_107 rfl rfl ?_
                      refine v_iload_n C 2 dX8_meetings_108 rfl rfl ?_
                      refine v_bipush (v := 10) C dX8_meetings_109 (by decide) ?_
                      refine v_irem C dX8_meetings_111 (by decide) ?_
                      have := ti_any y
                      refine v_top (fun x30 ex30 => ?_)
                      have hx30 : x30.toInt = (y.toInt % 10) := by rw [ex30]; exact ti_rem (rfl : Int32.toInt y = _) (show (10 : Int32).toInt = 10 by decide) (by omega) (by omega)
                      refine v_aload_n C 0 dX8_meetings_112 rfl rfl ?_
                      refine v_getr C 0 dX8_meetings_113 fX8_12 (by omega) hE12 rfl rfl ?_
                      refine v_iload_n C 3 dX8_meetings_116 rfl rfl ?_
                      refine v_cVp C dX8_meetings_117 lX8_102 mX0_weekdayOf 1 (by omega) hC116 (by decide) rfl (t_X0_weekdayOf l G ad hJ4 z) ⟨by decide, by decide⟩ rfl (Nat.le_of_ble_eq_true rfl) ⟨Nat.zero_le _, Nat.zero_le _⟩ (fun r31 hp32 => ?_)
                      refine v_isub C dX8_meetings_120 ?_
                      refine v_top (fun x33 _ => ?_)
                      refine v_iload C 7 dX8_meetings_121 rfl ?_
                      refine v_cSp C dX8_meetings_123 lX8_273 mX8_rest (c_rest l G _ ad _ x33 x29) ⟨by decide, by decide⟩ rfl (Nat.le_of_ble_eq_true rfl) ⟨Nat.zero_le _, Nat.zero_le _⟩ (fun r34 hp35 => ?_)
                      have hr34r := rest_b hp35
                      have hr34 : (0 : Int) ≤ r34.toInt ∧ r34.toInt ≤ 9 := by omega
                      refine v_iadd C dX8_meetings_126 ?_
                      refine v_top (fun x36 ex36 => ?_)
                      have hx36 : x36.toInt = (z.toInt + r34.toInt) := by rw [ex36]; exact ti_add (rfl : Int32.toInt z = _) (rfl : Int32.toInt r34 = _) (by omega) (by omega)
                      refine v_istore (lv' := [(0, .ref (ad 0)), (1, .int x), (2, .int y), (3, .int z), (4, .int u), (5, .int v), (6, .ref (ad b6)), (7, .int x29), (8, .int x36)]) C [1, 2, 3, 4, 5, 6, 7, 8, 0] dX8_meetings_127 (by decide) rfl ?_
                      refine v_iconst (v := 0) C dX8_meetings_129 (by decide) ?_
                      refine v_istore (lv' := [(0, .ref (ad 0)), (1, .int x), (2, .int y), (3, .int z), (4, .int u), (5, .int v), (6, .ref (ad b6)), (7, .int x29), (8, .int x36), (9, .int 0)]) C [1, 2, 3, 4, 5, 6, 7, 8, 9, 0] dX8_meetings_130 (by decide) rfl ?_
                      refine v_iload C 8 dX8_meetings_132 rfl ?_
                      refine v_istore (lv' := [(0, .ref (ad 0)), (1, .int x), (2, .int y), (3, .int z), (4, .int u), (5, .int v), (6, .ref (ad b6)), (7, .int x29), (8, .int x36), (9, .int 0), (10, .int x36)]) C [1, 2, 3, 4, 5, 6, 7, 8, 9, 10, 0] dX8_meetings_134 (by decide) rfl ?_
                      have LP37 : ∀ (t : Nat) (E40 : Nat → va_E) (y38 : Int32) (y39 : Int32), J8 G ad k E0 E40 → ((0 : Int) ≤ y39.toInt ∧ y39.toInt ≤ 48200) → 48201 - y39.toInt < (t : Int) → V X G A 12 (QI X G A (98 + 9 * k) ad (fun r E' => ((-2147483648 : Int) ≤ r.toInt ∧ r.toInt ≤ 2147483647) ∧ J8 G ad k E0 E')) (98 + 9 * k) ad 0 0 E40 136 [(2, .int y), (4, .int u), (5, .int v), (6, .ref (ad b6)), (7, .int x29), (9, .int y38), (10, .int y39)] [] := by
                        intro t44
                        induction t44 with
                        | zero => intro E40 y38 y39 hJ41 hy39 hm43; exfalso; omega
                        | succ t44 ih42 =>
                          intro E40 y38 y39 hJ41 hy39 hm43
                          refine v_iload C 6 dX8_meetings_136 rfl ?_
                          refine v_iload C 1 dX8_meetings_138 rfl ?_
                          refine b_icmp_gt C 205 dX8_meetings_140 (by decide) (rfl : Int32.toInt y39 = _) (rfl : Int32.toInt u = _) (fun c45 => ?_) (fun c45 => ?_)
                          · refine v_iload C 5 dX8_meetings_205 rfl ?_
                            exact v_ret C dX8_meetings_207 rfl rfl ⟨(ti_any y38), hJ41⟩
                          · have JN46 : ∀ (E48 : Nat → va_E) (y47 : Int32), J8 G ad k E0 E48 → V X G A 12 (QI X G A (98 + 9 * k) ad (fun r E' => ((-2147483648 : Int) ≤ r.toInt ∧ r.toInt ≤ 2147483647) ∧ J8 G ad k E0 E')) (98 + 9 * k) ad 0 0 E48 195 [(2, .int y), (4, .int u), (5, .int v), (6, .ref (ad b6)), (7, .int x29), (9, .int y47), (10, .int y39)] [] := by
                              intro E48 y47 hJ49
                              refine v_iload C 6 dX8_meetings_195 rfl ?_
                              refine v_iload C 4 dX8_meetings_197 rfl ?_
                              refine v_iadd C dX8_meetings_199 ?_
                              refine v_top (fun x50 ex50 => ?_)
                              have hx50 : x50.toInt = (y39.toInt + x29.toInt) := by rw [ex50]; exact ti_add (rfl : Int32.toInt y39 = _) (rfl : Int32.toInt x29 = _) (by omega) (by omega)
                              refine v_istore (lv' := [(2, .int y), (4, .int u), (5, .int v), (6, .ref (ad b6)), (7, .int x29), (9, .int y47), (10, .int x50)]) C [1, 2, 3, 4, 5, 6, 0] dX8_meetings_200 (by decide) rfl ?_
                              refine v_goto C 136 dX8_meetings_202 (by decide) ?_
                              exact ih42 _ y47 x50 hJ49 (by have := hx50; omega) (by have := hx50; omega)
                            refine v_iload C 2 dX8_meetings_143 rfl ?_
                            refine v_iconst (v := 2) C dX8_meetings_145 (by decide) ?_
                            refine b_icmp_ne C 155 dX8_meetings_146 (by decide) (rfl : Int32.toInt v = _) (show (2 : Int32).toInt = 2 by decide) (fun c51 => ?_) (fun c51 => ?_)
                            · refine v_aload C 3 dX8_meetings_155 rfl ?_
                              refine v_iload C 6 dX8_meetings_157 rfl ?_
                              refine v_sipush (v := 1440) C dX8_meetings_159 (by decide) ?_
                              refine v_imul C dX8_meetings_162 ?_
                              refine v_top (fun x52 ex52 => ?_)
                              have hx52 : x52.toInt = (y39.toInt * 1440) := by rw [ex52]; exact ti_mul (rfl : Int32.toInt y39 = _) (show (1440 : Int32).toInt = 1440 by decide) (by omega) (by omega)
                              refine v_iload_n C 0 dX8_meetings_163 rfl rfl ?_
                              refine v_bipush (v := 10) C dX8_meetings_164 (by decide) ?_
                              refine v_idiv C dX8_meetings_166 (by decide) ?_
                              have := ti_any y
                              refine v_top (fun x53 ex53 => ?_)
                              have hx53 : x53.toInt = (y.toInt / 10) := by rw [ex53]; exact ti_div (rfl : Int32.toInt y = _) (show (10 : Int32).toInt = 10 by decide) (by omega) (by omega)
                              refine v_iadd C dX8_meetings_167 ?_
                              refine v_top (fun x54 ex54 => ?_)
                              have hx54 : x54.toInt = ((y39.toInt * 1440) + (y.toInt / 10)) := by rw [ex54]; exact ti_add hx52 hx53 (by omega) (by omega)
                              obtain ⟨i57, hE57, hb57⟩ := hJ41.2.2.getO (b := b6) (by omega) hb6.t0
                              refine v_cVp C dX8_meetings_168 lX8_171 mX6_momentsOf b6 (by omega) hE57 (by decide) rfl (t_X6_momentsOf l G ad hJ41 b6 hb6 x54) ⟨by decide, by decide⟩ rfl (Nat.le_of_ble_eq_true rfl) ⟨Nat.zero_le _, Nat.zero_le _⟩ (fun r55 hp56 => ?_)
                              refine v_istore (lv' := [(2, .int y), (4, .int u), (5, .int v), (6, .ref (ad b6)), (7, .int x29), (9, .int y38), (10, .int y39), (11, .int r55)]) C [1, 2, 3, 4, 5, 6, 7, 0] dX8_meetings_171 (by decide) rfl ?_
                              refine v_iload C 2 dX8_meetings_173 rfl ?_
                              refine b_if_ne C 186 dX8_meetings_175 (by decide) (rfl : Int32.toInt v = _) (fun c58 => ?_) (fun c58 => ?_)
                              · refine v_iload C 7 dX8_meetings_186 rfl ?_
                                refine v_iconst (v := 1) C dX8_meetings_188 (by decide) ?_
                                refine b_icmp_le C 195 dX8_meetings_189 (by decide) (rfl : Int32.toInt r55 = _) (show (1 : Int32).toInt = 1 by decide) (fun c59 => ?_) (fun c59 => ?_)
                                · refine v_sub (lv' := [(2, .int y), (4, .int u), (5, .int v), (6, .ref (ad b6)), (7, .int x29), (9, .int y38), (10, .int y39)]) [0, 1, 2, 3, 4, 5, 6] rfl ?_
                                  exact JN46 _ y38 hJ41 
                                · obtain ⟨x60, ex60⟩ : ∃ y : Int32, y = y38 + 1 := ⟨_, rfl⟩
                                  refine v_iinc (v := x60) (lv' := [(2, .int y), (4, .int u), (5, .int v), (6, .ref (ad b6)), (7, .int x29), (9, .int x60), (10, .int y39), (11, .int r55)]) C 5 [1, 2, 3, 4, 5, 0, 6, 7] dX8_meetings_192 rfl (ex60.symm) (by decide) rfl ?_
                                  refine v_sub (lv' := [(2, .int y), (4, .int u), (5, .int v), (6, .ref (ad b6)), (7, .int x29), (9, .int x60), (10, .int y39)]) [0, 1, 2, 3, 4, 5, 6] rfl ?_
                                  exact JN46 _ x60 hJ41 
                              · refine v_iload C 7 dX8_meetings_178 rfl ?_
                                refine b_if_ne C 195 dX8_meetings_180 (by decide) (rfl : Int32.toInt r55 = _) (fun c61 => ?_) (fun c61 => ?_)
                                · refine v_sub (lv' := [(2, .int y), (4, .int u), (5, .int v), (6, .ref (ad b6)), (7, .int x29), (9, .int y38), (10, .int y39)]) [0, 1, 2, 3, 4, 5, 6] rfl ?_
                                  exact JN46 _ y38 hJ41 
                                · refine v_goto C 192 dX8_meetings_183 (by decide) ?_
                                  obtain ⟨x62, ex62⟩ : ∃ y : Int32, y = y38 + 1 := ⟨_, rfl⟩
                                  refine v_iinc (v := x62) (lv' := [(2, .int y), (4, .int u), (5, .int v), (6, .ref (ad b6)), (7, .int x29), (9, .int x62), (10, .int y39), (11, .int r55)]) C 5 [1, 2, 3, 4, 5, 0, 6, 7] dX8_meetings_192 rfl (ex62.symm) (by decide) rfl ?_
                                  refine v_sub (lv' := [(2, .int y), (4, .int u), (5, .int v), (6, .ref (ad b6)), (7, .int x29), (9, .int x62), (10, .int y39)]) [0, 1, 2, 3, 4, 5, 6] rfl ?_
                                  exact JN46 _ x62 hJ41 
                            · obtain ⟨x63, ex63⟩ : ∃ y : Int32, y = y38 + 1 := ⟨_, rfl⟩
                              refine v_iinc (v := x63) (lv' := [(2, .int y), (4, .int u), (5, .int v), (6, .ref (ad b6)), (7, .int x29), (9, .int x63), (10, .int y39)]) C 5 [1, 2, 3, 4, 5, 0, 6] dX8_meetings_149 rfl (ex63.symm) (by decide) rfl ?_
                              refine v_goto C 195 dX8_meetings_152 (by decide) ?_
                              exact JN46 _ x63 hJ41 
                      refine v_sub (lv' := [(2, .int y), (4, .int u), (5, .int v), (6, .ref (ad b6)), (7, .int x29), (9, .int 0), (10, .int x36)]) [2, 4, 5, 6, 7, 9, 10] rfl ?_
                      exact LP37 100000 _ 0 x36 hJ4 (by have := (show (0 : Int32).toInt = 0 by decide); have := hx36; omega) (by have := (show (0 : Int32).toInt = 0 by decide); have := hx36; omega)
                    · refine v_iconst (v := (-1)) C dX8_meetings_92 (by decide) ?_
                      exact v_ret C dX8_meetings_93 rfl rfl ⟨(ti_any (-1)), hJ4⟩
            · refine b_if_eq C 92 dX8_meetings_62 (by decide) (show (0 : Int32).toInt = 0 by decide) (fun c64 => ?_) (fun c64 => absurd c64 (by decide))
              refine v_iconst (v := (-1)) C dX8_meetings_92 (by decide) ?_
              exact v_ret C dX8_meetings_93 rfl rfl ⟨(ti_any (-1)), hJ4⟩
          · refine b_if_eq C 92 dX8_meetings_50 (by decide) (show (0 : Int32).toInt = 0 by decide) (fun c65 => ?_) (fun c65 => absurd c65 (by decide))
            refine v_iconst (v := (-1)) C dX8_meetings_92 (by decide) ?_
            exact v_ret C dX8_meetings_93 rfl rfl ⟨(ti_any (-1)), hJ4⟩
        · refine b_if_ne C 42 dX8_meetings_37 (by decide) (show (0 : Int32).toInt = 0 by decide) (fun c66 => absurd c66 (by decide)) (fun c66 => ?_)
          refine v_iconst (v := (-1)) C dX8_meetings_40 (by decide) ?_
          exact v_ret C dX8_meetings_41 rfl rfl ⟨(ti_any (-1)), hJ4⟩
      · refine b_if_eq C 40 dX8_meetings_23 (by decide) (show (0 : Int32).toInt = 0 by decide) (fun c67 => ?_) (fun c67 => absurd c67 (by decide))
        refine v_iconst (v := (-1)) C dX8_meetings_40 (by decide) ?_
        exact v_ret C dX8_meetings_41 rfl rfl ⟨(ti_any (-1)), hJ4⟩

