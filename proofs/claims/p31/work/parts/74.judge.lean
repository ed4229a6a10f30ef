set_option maxRecDepth 20000 in
theorem t_X0_yearOf (l : Launch) (G : Gl) (ad : Nat → Nat) {k : Nat} {E0 E : Nat → va_E} (hJ : J8 G ad k E0 E) (x : Int32) : CtI l G yX0_yearOf cX0_yearOf 4 .int 0 0 (98 + 9 * k) ad E [.ref (ad 1), .int x] (fun r E' => ((0 : Int) ≤ r.toInt ∧ r.toInt ≤ 99) ∧ E = E') := by
  refine CtI.of (by decide) (Nat.le_of_ble_eq_true rfl) (fun X A C => ?_)
  refine v_sub (lv' := [(0, .ref (ad 1)), (1, .int x)]) [0, 1] rfl ?_
  have hk5 := hJ.1
  refine v_iconst (v := 0) C dX0_yearOf_0 (by decide) ?_
  refine v_istore_n (lv' := [(0, .ref (ad 1)), (1, .int x), (2, .int 0)]) C [1, 2, 0] dX0_yearOf_1 rfl (by decide) rfl ?_
  refine v_bipush (v := 64) C dX0_yearOf_2 (by decide) ?_
  refine v_istore_n (lv' := [(0, .ref (ad 1)), (1, .int x), (2, .int 0), (3, .int 64)]) C [1, 2, 3, 0] dX0_yearOf_4 rfl (by decide) rfl ?_
  have LP1 : ∀ (t : Nat) (y2 : Int32) (y3 : Int32) (y4 : Int32), ((0 : Int) ≤ y3.toInt ∧ y3.toInt ≤ 99) → ((0 : Int) ≤ y4.toInt ∧ y4.toInt ≤ 64) → y4.toInt < (t : Int) → V X G A 4 (QI X G A (98 + 9 * k) ad (fun r E' => ((0 : Int) ≤ r.toInt ∧ r.toInt ≤ 99) ∧ E = E')) (98 + 9 * k) ad 0 0 E 5 [(0, .ref (ad 1)), (1, .int y2), (2, .int y3), (3, .int y4)] [] := by
    intro t9
    induction t9 with
    | zero => intro y2 y3 y4 hy3 hy4 hm8; exfalso; omega
    | succ t9 ih7 =>
      intro y2 y3 y4 hy3 hy4 hm8
      refine v_iload_n C 3 dX0_yearOf_5 rfl rfl ?_
      refine b_if_le C 40 dX0_yearOf_6 (by decide) (rfl : Int32.toInt y4 = _) (fun c10 => ?_) (fun c10 => ?_)
      · refine v_iload_n C 2 dX0_yearOf_40 rfl rfl ?_
        exact v_ret C dX0_yearOf_41 rfl rfl ⟨(show (0 : Int) ≤ Int32.toInt y3 ∧ Int32.toInt y3 ≤ 99 by omega), rfl⟩
      · refine v_iload_n C 2 dX0_yearOf_9 rfl rfl ?_
        refine v_iload_n C 3 dX0_yearOf_10 rfl rfl ?_
        refine v_iadd C dX0_yearOf_11 ?_
        refine v_top (fun x11 ex11 => ?_)
        have hx11 : x11.toInt = (y3.toInt + y4.toInt) := by rw [ex11]; exact ti_add (rfl : Int32.toInt y3 = _) (rfl : Int32.toInt y4 = _) (by omega) (by omega)
        refine v_bipush (v := 100) C dX0_yearOf_12 (by decide) ?_
        refine b_icmp_ge C 33 dX0_yearOf_14 (by decide) hx11 (show (100 : Int32).toInt = 100 by decide) (fun c12 => ?_) (fun c12 => ?_)
        · refine v_iload_n C 3 dX0_yearOf_33 rfl rfl ?_
          refine v_iconst (v := 1) C dX0_yearOf_34 (by decide) ?_
          refine v_ishr C dX0_yearOf_35 ?_
          refine v_top (fun x13 ex13 => ?_)
          have hx13 : x13.toInt = y4.toInt / 2 := by rw [ex13, ti_shr1]
          refine v_istore_n (lv' := [(0, .ref (ad 1)), (1, .int y2), (2, .int y3), (3, .int x13)]) C [1, 2, 3, 0] dX0_yearOf_36 rfl (by decide) rfl ?_
          refine v_goto C 5 dX0_yearOf_37 (by decide) ?_
          exact ih7 y2 y3 x13  (by have := hx13; omega) (by have := hx13; omega) (by have := hx13; omega)
        · refine v_aload_n C 0 dX0_yearOf_17 rfl rfl ?_
          obtain ⟨ic14, md14, ms14, ld14, ys14, hC114, hC214, hC314, hC414, hC514, hCP14, hCF14⟩ := hJ.cal
          have hCl14 := cal_b hCP14
          have hCy14 := cal_y hCP14
          refine v_getr C 1 dX0_yearOf_18 fX0_21 (by omega) hC114 rfl rfl ?_
          refine v_iload_n C 2 dX0_yearOf_21 rfl rfl ?_
          refine v_iload_n C 3 dX0_yearOf_22 rfl rfl ?_
          refine v_iadd C dX0_yearOf_23 ?_
          refine v_top (fun x15 ex15 => ?_)
          have hx15 : x15.toInt = (y3.toInt + y4.toInt) := by rw [ex15]; exact ti_add (rfl : Int32.toInt y3 = _) (rfl : Int32.toInt y4 = _) (by omega) (by omega)
          refine v_ald (v := ys14 ((y3.toInt + y4.toInt)).toNat) C 5 dX0_yearOf_24 (by omega) hC514 (ti_in hx15 (by omega) (by omega)) (by rw [ti_cl hx15]) ?_
          refine v_top (fun x16 _ => ?_)
          refine v_iload_n C 1 dX0_yearOf_25 rfl rfl ?_
          refine b_icmp_gt C 33 dX0_yearOf_26 (by decide) (rfl : Int32.toInt x16 = _) (rfl : Int32.toInt y2 = _) (fun c17 => ?_) (fun c17 => ?_)
          · refine v_iload_n C 3 dX0_yearOf_33 rfl rfl ?_
            refine v_iconst (v := 1) C dX0_yearOf_34 (by decide) ?_
            refine v_ishr C dX0_yearOf_35 ?_
            refine v_top (fun x18 ex18 => ?_)
            have hx18 : x18.toInt = y4.toInt / 2 := by rw [ex18, ti_shr1]
            refine v_istore_n (lv' := [(0, .ref (ad 1)), (1, .int y2), (2, .int y3), (3, .int x18)]) C [1, 2, 3, 0] dX0_yearOf_36 rfl (by decide) rfl ?_
            refine v_goto C 5 dX0_yearOf_37 (by decide) ?_
            exact ih7 y2 y3 x18  (by have := hx18; omega) (by have := hx18; omega) (by have := hx18; omega)
          · refine v_iload_n C 2 dX0_yearOf_29 rfl rfl ?_
            refine v_iload_n C 3 dX0_yearOf_30 rfl rfl ?_
            refine v_iadd C dX0_yearOf_31 ?_
            refine v_top (fun x19 ex19 => ?_)
            have hx19 : x19.toInt = (y3.toInt + y4.toInt) := by rw [ex19]; exact ti_add (rfl : Int32.toInt y3 = _) (rfl : Int32.toInt y4 = _) (by omega) (by omega)
            refine v_istore_n (lv' := [(0, .ref (ad 1)), (1, .int y2), (2, .int x19), (3, .int y4)]) C [1, 2, 0, 3] dX0_yearOf_32 rfl (by decide) rfl ?_
            refine v_iload_n C 3 dX0_yearOf_33 rfl rfl ?_
            refine v_iconst (v := 1) C dX0_yearOf_34 (by decide) ?_
            refine v_ishr C dX0_yearOf_35 ?_
            refine v_top (fun x20 ex20 => ?_)
            have hx20 : x20.toInt = y4.toInt / 2 := by rw [ex20, ti_shr1]
            refine v_istore_n (lv' := [(0, .ref (ad 1)), (1, .int y2), (2, .int x19), (3, .int x20)]) C [1, 2, 3, 0] dX0_yearOf_36 rfl (by decide) rfl ?_
            refine v_goto C 5 dX0_yearOf_37 (by decide) ?_
            exact ih7 y2 x19 x20  (by have := hx19; have := hx20; omega) (by have := hx19; have := hx20; omega) (by have := hx19; have := hx20; omega)
  exact LP1 100000 x 0 64  (by have := (show (0 : Int32).toInt = 0 by decide); have := (show (64 : Int32).toInt = 64 by decide); omega) (by have := (show (0 : Int32).toInt = 0 by decide); have := (show (64 : Int32).toInt = 64 by decide); omega) (by have := (show (0 : Int32).toInt = 0 by decide); have := (show (64 : Int32).toInt = 64 by decide); omega)

set_option maxRecDepth 20000 in
theorem t_X0_monthOf (l : Launch) (G : Gl) (ad : Nat → Nat) {k : Nat} {E0 E : Nat → va_E} (hJ : J8 G ad k E0 E) (y : Int32) (hy : (0 : Int) ≤ y.toInt ∧ y.toInt ≤ 99) (x : Int32) : CtI l G yX0_monthOf cX0_monthOf 7 .int 0 0 (98 + 9 * k) ad E [.ref (ad 1), .int y, .int x] (fun r E' => ((0 : Int) ≤ r.toInt ∧ r.toInt ≤ 11) ∧ E = E') := by
  refine CtI.of (by decide) (Nat.le_of_ble_eq_true rfl) (fun X A C => ?_)
  refine v_sub (lv' := [(0, .ref (ad 1)), (1, .int y), (2, .int x)]) [0, 1, 2] rfl ?_
  have hk5 := hJ.1
  refine v_iload_n C 2 dX0_monthOf_0 rfl rfl ?_
  refine v_aload_n C 0 dX0_monthOf_1 rfl rfl ?_
  obtain ⟨ic1, md1, ms1, ld1, ys1, hC11, hC21, hC31, hC41, hC51, hCP1, hCF1⟩ := hJ.cal
  have hCl1 := cal_b hCP1
  have hCy1 := cal_y hCP1
  refine v_getr C 1 dX0_monthOf_2 fX0_21 (by omega) hC11 rfl rfl ?_
  refine v_iload_n C 1 dX0_monthOf_5 rfl rfl ?_
  refine v_ald (v := ys1 (y.toInt).toNat) C 5 dX0_monthOf_6 (by omega) hC51 (ti_in (rfl : Int32.toInt y = _) (by omega) (by omega)) (by rw [ti_cl (rfl : Int32.toInt y = _)]) ?_
  refine v_top (fun x2 _ => ?_)
  refine v_isub C dX0_monthOf_7 ?_
  refine v_top (fun x3 _ => ?_)
  refine v_istore_n (lv' := [(0, .ref (ad 1)), (1, .int y), (2, .int x), (3, .int x3)]) C [1, 2, 3, 0] dX0_monthOf_8 rfl (by decide) rfl ?_
  refine v_iconst (v := 0) C dX0_monthOf_9 (by decide) ?_
  refine v_istore (lv' := [(0, .ref (ad 1)), (1, .int y), (2, .int x), (3, .int x3), (4, .int 0)]) C [1, 2, 3, 4, 0] dX0_monthOf_10 (by decide) rfl ?_
  refine v_iconst (v := 1) C dX0_monthOf_12 (by decide) ?_
  refine v_istore (lv' := [(0, .ref (ad 1)), (1, .int y), (2, .int x), (3, .int x3), (4, .int 0), (5, .int 1)]) C [1, 2, 3, 4, 5, 0] dX0_monthOf_13 (by decide) rfl ?_
  have LP4 : ∀ (t : Nat) (y5 : Int32) (y6 : Int32), ((0 : Int) ≤ y5.toInt ∧ y5.toInt ≤ 11) → ((1 : Int) ≤ y6.toInt ∧ y6.toInt ≤ 12) → 13 - y6.toInt < (t : Int) → V X G A 7 (QI X G A (98 + 9 * k) ad (fun r E' => ((0 : Int) ≤ r.toInt ∧ r.toInt ≤ 11) ∧ E = E')) (98 + 9 * k) ad 0 0 E 15 [(0, .ref (ad 1)), (1, .int y), (2, .int x), (3, .int x3), (4, .int y5), (5, .int y6)] [] := by
    intro t11
    induction t11 with
    | zero => intro y5 y6 hy5 hy6 hm10; exfalso; omega
    | succ t11 ih9 =>
      intro y5 y6 hy5 hy6 hm10
      refine v_iload C 5 dX0_monthOf_15 rfl ?_
      refine v_bipush (v := 12) C dX0_monthOf_17 (by decide) ?_
      refine b_icmp_ge C 67 dX0_monthOf_19 (by decide) (rfl : Int32.toInt y6 = _) (show (12 : Int32).toInt = 12 by decide) (fun c12 => ?_) (fun c12 => ?_)
      · refine v_iload C 4 dX0_monthOf_67 rfl ?_
        exact v_ret C dX0_monthOf_69 rfl rfl ⟨(show (0 : Int) ≤ Int32.toInt y5 ∧ Int32.toInt y5 ≤ 11 by omega), rfl⟩
      · have JN13 : ∀ (y14 : Int32) (y15 : Int32), V X G A 7 (QI X G A (98 + 9 * k) ad (fun r E' => ((0 : Int) ≤ r.toInt ∧ r.toInt ≤ 11) ∧ E = E')) (98 + 9 * k) ad 0 0 E 48 [(0, .ref (ad 1)), (1, .int y), (2, .int x), (3, .int x3), (4, .int y5), (5, .int y6)] [.int y14, .int y15] := by
          intro y14 y15
          refine v_iadd C dX0_monthOf_48 ?_
          refine v_top (fun x18 _ => ?_)
          refine v_istore (lv' := [(0, .ref (ad 1)), (1, .int y), (2, .int x), (3, .int x3), (4, .int y5), (5, .int y6), (6, .int x18)]) C [1, 2, 3, 4, 5, 6, 0] dX0_monthOf_49 (by decide) rfl ?_
          refine v_iload C 6 dX0_monthOf_51 rfl ?_
          refine v_iload_n C 3 dX0_monthOf_53 rfl rfl ?_
          refine b_icmp_gt C 61 dX0_monthOf_54 (by decide) (rfl : Int32.toInt x18 = _) (rfl : Int32.toInt x3 = _) (fun c19 => ?_) (fun c19 => ?_)
          · obtain ⟨x20, ex20⟩ : ∃ y : Int32, y = y6 + 1 := ⟨_, rfl⟩
            have hx20 : x20.toInt = (y6.toInt + 1) := by rw [ex20]; exact ti_add (rfl : Int32.toInt y6 = _) (show (1 : Int32).toInt = 1 by decide) (by omega) (by omega)
            refine v_iinc (v := x20) (lv' := [(0, .ref (ad 1)), (1, .int y), (2, .int x), (3, .int x3), (4, .int y5), (5, .int x20), (6, .int x18)]) C 5 [1, 2, 3, 4, 5, 0, 6] dX0_monthOf_61 rfl (ex20.symm) (by decide) rfl ?_
            refine v_goto C 15 dX0_monthOf_64 (by decide) ?_
            refine v_sub (lv' := [(0, .ref (ad 1)), (1, .int y), (2, .int x), (3, .int x3), (4, .int y5), (5, .int x20)]) [0, 1, 2, 3, 4, 5] rfl ?_
            exact ih9 y5 x20  (by have := hx20; omega) (by have := hx20; omega) (by have := hx20; omega)
          · refine v_iload C 5 dX0_monthOf_57 rfl ?_
            refine v_istore (lv' := [(0, .ref (ad 1)), (1, .int y), (2, .int x), (3, .int x3), (4, .int y6), (5, .int y6), (6, .int x18)]) C [1, 2, 3, 4, 0, 5, 6] dX0_monthOf_59 (by decide) rfl ?_
            obtain ⟨x21, ex21⟩ : ∃ y : Int32, y = y6 + 1 := ⟨_, rfl⟩
            have hx21 : x21.toInt = (y6.toInt + 1) := by rw [ex21]; exact ti_add (rfl : Int32.toInt y6 = _) (show (1 : Int32).toInt = 1 by decide) (by omega) (by omega)
            refine v_iinc (v := x21) (lv' := [(0, .ref (ad 1)), (1, .int y), (2, .int x), (3, .int x3), (4, .int y6), (5, .int x21), (6, .int x18)]) C 5 [1, 2, 3, 4, 5, 0, 6] dX0_monthOf_61 rfl (ex21.symm) (by decide) rfl ?_
            refine v_goto C 15 dX0_monthOf_64 (by decide) ?_
            refine v_sub (lv' := [(0, .ref (ad 1)), (1, .int y), (2, .int x), (3, .int x3), (4, .int y6), (5, .int x21)]) [0, 1, 2, 3, 4, 5] rfl ?_
            exact ih9 y6 x21  (by have := hx21; omega) (by have := hx21; omega) (by have := hx21; omega)
        refine v_aload_n C 0 dX0_monthOf_22 rfl rfl ?_
        refine v_getr C 1 dX0_monthOf_23 fX0_15 (by omega) hC11 rfl rfl ?_
        refine v_iload C 5 dX0_monthOf_26 rfl ?_
        refine v_ald (v := ms1 (y6.toInt).toNat) C 3 dX0_monthOf_28 (by omega) hC31 (ti_in (rfl : Int32.toInt y6 = _) (by omega) (by omega)) (by rw [ti_cl (rfl : Int32.toInt y6 = _)]) ?_
        refine v_top (fun x22 _ => ?_)
        refine v_iload C 5 dX0_monthOf_29 rfl ?_
        refine v_aload_n C 0 dX0_monthOf_31 rfl rfl ?_
        refine v_geti (v := ic1 6) C 1 dX0_monthOf_32 fX0_31 (by omega) hC11 rfl rfl ?_
        refine b_icmp_le C 47 dX0_monthOf_35 (by decide) (rfl : Int32.toInt y6 = _) (rfl : Int32.toInt (ic1 6) = _) (fun c23 => ?_) (fun c23 => ?_)
        · refine v_iconst (v := 0) C dX0_monthOf_47 (by decide) ?_
          exact JN13 0 x22  
        · refine v_aload_n C 0 dX0_monthOf_38 rfl rfl ?_
          refine v_getr C 1 dX0_monthOf_39 fX0_18 (by omega) hC11 rfl rfl ?_
          refine v_iload_n C 1 dX0_monthOf_42 rfl rfl ?_
          refine v_ald (v := ld1 (y.toInt).toNat) C 4 dX0_monthOf_43 (by omega) hC41 (ti_in (rfl : Int32.toInt y = _) (by omega) (by omega)) (by rw [ti_cl (rfl : Int32.toInt y = _)]) ?_
          refine v_top (fun x24 _ => ?_)
          refine v_goto C 48 dX0_monthOf_44 (by decide) ?_
          exact JN13 x24 x22  
  exact LP4 100000 0 1  (by have := (show (0 : Int32).toInt = 0 by decide); have := (show (1 : Int32).toInt = 1 by decide); omega) (by have := (show (0 : Int32).toInt = 0 by decide); have := (show (1 : Int32).toInt = 1 by decide); omega) (by have := (show (0 : Int32).toInt = 0 by decide); have := (show (1 : Int32).toInt = 1 by decide); omega)

set_option maxRecDepth 20000 in
theorem t_X0_firstDay (l : Launch) (G : Gl) (ad : Nat → Nat) {k : Nat} {E0 E : Nat → va_E} (hJ : J8 G ad k E0 E) (y : Int32) (hy : (0 : Int) ≤ y.toInt ∧ y.toInt ≤ 99) (x : Int32) (hx : (0 : Int) ≤ x.toInt ∧ x.toInt ≤ 11) : CtI l G yX0_firstDay cX0_firstDay 3 .int 0 0 (98 + 9 * k) ad E [.ref (ad 1), .int y, .int x] (fun r E' => ((-2147483648 : Int) ≤ r.toInt ∧ r.toInt ≤ 2147483647) ∧ E = E') := by
  refine CtI.of (by decide) (Nat.le_of_ble_eq_true rfl) (fun X A C => ?_)
  refine v_sub (lv' := [(0, .ref (ad 1)), (1, .int y), (2, .int x)]) [0, 1, 2] rfl ?_
  have hk5 := hJ.1
  refine v_aload_n C 0 dX0_firstDay_0 rfl rfl ?_
  obtain ⟨ic1, md1, ms1, ld1, ys1, hC11, hC21, hC31, hC41, hC51, hCP1, hCF1⟩ := hJ.cal
  have hCl1 := cal_b hCP1
  have hCy1 := cal_y hCP1
  refine v_getr C 1 dX0_firstDay_1 fX0_21 (by omega) hC11 rfl rfl ?_
  refine v_iload_n C 1 dX0_firstDay_4 rfl rfl ?_
  refine v_ald (v := ys1 (y.toInt).toNat) C 5 dX0_firstDay_5 (by omega) hC51 (ti_in (rfl : Int32.toInt y = _) (by omega) (by omega)) (by rw [ti_cl (rfl : Int32.toInt y = _)]) ?_
  refine v_top (fun x2 _ => ?_)
  refine v_aload_n C 0 dX0_firstDay_6 rfl rfl ?_
  refine v_getr C 1 dX0_firstDay_7 fX0_15 (by omega) hC11 rfl rfl ?_
  refine v_iload_n C 2 dX0_firstDay_10 rfl rfl ?_
  refine v_ald (v := ms1 (x.toInt).toNat) C 3 dX0_firstDay_11 (by omega) hC31 (ti_in (rfl : Int32.toInt x = _) (by omega) (by omega)) (by rw [ti_cl (rfl : Int32.toInt x = _)]) ?_
  refine v_top (fun x3 _ => ?_)
  refine v_iadd C dX0_firstDay_12 ?_
  refine v_top (fun x4 _ => ?_)
  refine v_iload_n C 2 dX0_firstDay_13 rfl rfl ?_
  refine v_aload_n C 0 dX0_firstDay_14 rfl rfl ?_
  refine v_geti (v := ic1 6) C 1 dX0_firstDay_15 fX0_31 (by omega) hC11 rfl rfl ?_
  refine b_icmp_le C 30 dX0_firstDay_18 (by decide) (rfl : Int32.toInt x = _) (rfl : Int32.toInt (ic1 6) = _) (fun c5 => ?_) (fun c5 => ?_)
  · refine v_iconst (v := 0) C dX0_firstDay_30 (by decide) ?_
    refine v_iadd C dX0_firstDay_31 ?_
    refine v_top (fun x6 _ => ?_)
    exact v_ret C dX0_firstDay_32 rfl rfl ⟨(ti_any x6), rfl⟩
  · refine v_aload_n C 0 dX0_firstDay_21 rfl rfl ?_
    refine v_getr C 1 dX0_firstDay_22 fX0_18 (by omega) hC11 rfl rfl ?_
    refine v_iload_n C 1 dX0_firstDay_25 rfl rfl ?_
    refine v_ald (v := ld1 (y.toInt).toNat) C 4 dX0_firstDay_26 (by omega) hC41 (ti_in (rfl : Int32.toInt y = _) (by omega) (by omega)) (by rw [ti_cl (rfl : Int32.toInt y = _)]) ?_
    refine v_top (fun x7 _ => ?_)
    refine v_goto C 31 dX0_firstDay_27 (by decide) ?_
    refine v_iadd C dX0_firstDay_31 ?_
    refine v_top (fun x8 _ => ?_)
    exact v_ret C dX0_firstDay_32 rfl rfl ⟨(ti_any x8), rfl⟩

set_option maxRecDepth 20000 in
theorem t_X0_daysIn (l : Launch) (G : Gl) (ad : Nat → Nat) {k : Nat} {E0 E : Nat → va_E} (hJ : J8 G ad k E0 E) (y : Int32) (hy : (0 : Int) ≤ y.toInt ∧ y.toInt ≤ 99) (x : Int32) (hx : (0 : Int) ≤ x.toInt ∧ x.toInt ≤ 11) : CtI l G yX0_daysIn cX0_daysIn 3 .int 0 0 (98 + 9 * k) ad E [.ref (ad 1), .int y, .int x] (fun r E' => ((-2147483648 : Int) ≤ r.toInt ∧ r.toInt ≤ 2147483647) ∧ E = E') := by
  refine CtI.of (by decide) (Nat.le_of_ble_eq_true rfl) (fun X A C => ?_)
  refine v_sub (lv' := [(0, .ref (ad 1)), (1, .int y), (2, .int x)]) [0, 1, 2] rfl ?_
  have hk5 := hJ.1
  refine v_aload_n C 0 dX0_daysIn_0 rfl rfl ?_
  obtain ⟨ic1, md1, ms1, ld1, ys1, hC11, hC21, hC31, hC41, hC51, hCP1, hCF1⟩ := hJ.cal
  have hCl1 := cal_b hCP1
  have hCy1 := cal_y hCP1
  refine v_getr C 1 dX0_daysIn_1 fX0_9 (by omega) hC11 rfl rfl ?_
  refine v_iload_n C 2 dX0_daysIn_4 rfl rfl ?_
  refine v_ald (v := md1 (x.toInt).toNat) C 2 dX0_daysIn_5 (by omega) hC21 (ti_in (rfl : Int32.toInt x = _) (by omega) (by omega)) (by rw [ti_cl (rfl : Int32.toInt x = _)]) ?_
  refine v_top (fun x2 _ => ?_)
  refine v_iload_n C 2 dX0_daysIn_6 rfl rfl ?_
  refine v_aload_n C 0 dX0_daysIn_7 rfl rfl ?_
  refine v_geti (v := ic1 6) C 1 dX0_daysIn_8 fX0_31 (by omega) hC11 rfl rfl ?_
  refine b_icmp_ne C 23 dX0_daysIn_11 (by decide) (rfl : Int32.toInt x = _) (rfl : Int32.toInt (ic1 6) = _) (fun c3 => ?_) (fun c3 => ?_)
  · refine v_iconst (v := 0) C dX0_daysIn_23 (by decide) ?_
    refine v_iadd C dX0_daysIn_24 ?_
    refine v_top (fun x4 _ => ?_)
    exact v_ret C dX0_daysIn_25 rfl rfl ⟨(ti_any x4), rfl⟩
  · refine v_aload_n C 0 dX0_daysIn_14 rfl rfl ?_
    refine v_getr C 1 dX0_daysIn_15 fX0_18 (by omega) hC11 rfl rfl ?_
    refine v_iload_n C 1 dX0_daysIn_18 rfl rfl ?_
    refine v_ald (v := ld1 (y.toInt).toNat) C 4 dX0_daysIn_19 (by omega) hC41 (ti_in (rfl : Int32.toInt y = _) (by omega) (by omega)) (by rw [ti_cl (rfl : Int32.toInt y = _)]) ?_
    refine v_top (fun x5 _ => ?_)
    refine v_goto C 24 dX0_daysIn_20 (by decide) ?_
    refine v_iadd C dX0_daysIn_24 ?_
    refine v_top (fun x6 _ => ?_)
    exact v_ret C dX0_daysIn_25 rfl rfl ⟨(ti_any x6), rfl⟩

set_option maxRecDepth 20000 in
theorem t_X0_monthsOn (l : Launch) (G : Gl) (ad : Nat → Nat) {k : Nat} {E0 E : Nat → va_E} (hJ : J8 G ad k E0 E) (x : Int32) (y : Int32) (z : Int32) : CtI l G yX0_monthsOn cX0_monthsOn 11 .int 2 41 (98 + 9 * k) ad E [.ref (ad 1), .int x, .int y, .int z] (fun r E' => ((-2147483648 : Int) ≤ r.toInt ∧ r.toInt ≤ 2147483647) ∧ E = E') := by
  refine CtI.of (by decide) (Nat.le_of_ble_eq_true rfl) (fun X A C => ?_)
  refine v_sub (lv' := [(0, .ref (ad 1)), (1, .int x), (2, .int y), (3, .int z)]) [0, 1, 2, 3] rfl ?_
  have hk5 := hJ.1
  refine v_aload_n C 0 dX0_monthsOn_0 rfl rfl ?_
  refine v_iload_n C 1 dX0_monthsOn_1 rfl rfl ?_
  obtain ⟨ic3, md3, ms3, ld3, ys3, hC13, hC23, hC33, hC43, hC53, hCP3, hCF3⟩ := hJ.cal
  have hCl3 := cal_b hCP3
  have hCy3 := cal_y hCP3
  refine v_cVp C dX0_monthsOn_2 lX0_51 mX0_yearOf 1 (by omega) hC13 (by decide) rfl (t_X0_yearOf l G ad hJ x) ⟨by decide, by decide⟩ rfl (Nat.le_of_ble_eq_true rfl) ⟨Nat.zero_le _, Nat.zero_le _⟩ (fun r1 hp2 => ?_)
  refine v_istore (lv' := [(0, .ref (ad 1)), (1, .int x), (2, .int y), (3, .int z), (4, .int r1)]) C [1, 2, 3, 4, 0] dX0_monthsOn_5 (by decide) rfl ?_
  refine v_aload_n C 0 dX0_monthsOn_7 rfl rfl ?_
  refine v_iload C 4 dX0_monthsOn_8 rfl ?_
  refine v_iload_n C 1 dX0_monthsOn_10 rfl rfl ?_
  refine v_cVp C dX0_monthsOn_11 lX0_55 mX0_monthOf 1 (by omega) hC13 (by decide) rfl (t_X0_monthOf l G ad hJ r1 (show (0 : Int) ≤ Int32.toInt r1 ∧ Int32.toInt r1 ≤ 99 by omega) x) ⟨by decide, by decide⟩ rfl (Nat.le_of_ble_eq_true rfl) ⟨Nat.zero_le _, Nat.zero_le _⟩ (fun r4 hp5 => ?_)
  refine v_istore (lv' := [(0, .ref (ad 1)), (1, .int x), (2, .int y), (3, .int z), (4, .int r1), (5, .int r4)]) C [1, 2, 3, 4, 5, 0] dX0_monthsOn_14 (by decide) rfl ?_
  refine v_iload_n C 1 dX0_monthsOn_16 rfl rfl ?_
  refine v_aload_n C 0 dX0_monthsOn_17 rfl rfl ?_
  refine v_iload C 4 dX0_monthsOn_18 rfl ?_
  refine v_iload C 5 dX0_monthsOn_20 rfl ?_
  refine v_cVp C dX0_monthsOn_22 lX0_58 mX0_firstDay 1 (by omega) hC13 (by decide) rfl (t_X0_firstDay l G ad hJ r1 (show (0 : Int) ≤ Int32.toInt r1 ∧ Int32.toInt r1 ≤ 99 by omega) r4 (show (0 : Int) ≤ Int32.toInt r4 ∧ Int32.toInt r4 ≤ 11 by omega)) ⟨by decide, by decide⟩ rfl (Nat.le_of_ble_eq_true rfl) ⟨Nat.zero_le _, Nat.zero_le _⟩ (fun r6 hp7 => ?_)
  refine v_isub C dX0_monthsOn_25 ?_
  refine v_top (fun x8 _ => ?_)
  refine v_istore (lv' := [(0, .ref (ad 1)), (1, .int x), (2, .int y), (3, .int z), (4, .int r1), (5, .int r4), (6, .int x8)]) C [1, 2, 3, 4, 5, 6, 0] dX0_monthsOn_26 (by decide) rfl ?_
  refine v_iload C 4 dX0_monthsOn_28 rfl ?_
  refine v_bipush (v := 12) C dX0_monthsOn_30 (by decide) ?_
  refine v_imul C dX0_monthsOn_32 ?_
  refine v_top (fun x9 ex9 => ?_)
  have hx9 : x9.toInt = (r1.toInt * 12) := by rw [ex9]; exact ti_mul (rfl : Int32.toInt r1 = _) (show (12 : Int32).toInt = 12 by decide) (by omega) (by omega)
  refine v_iload C 5 dX0_monthsOn_33 rfl ?_
  refine v_iadd C dX0_monthsOn_35 ?_
  refine v_top (fun x10 ex10 => ?_)
  have hx10 : x10.toInt = ((r1.toInt * 12) + r4.toInt) := by rw [ex10]; exact ti_add hx9 (rfl : Int32.toInt r4 = _) (by omega) (by omega)
  refine v_iload_n C 2 dX0_monthsOn_36 rfl rfl ?_
  refine v_iadd C dX0_monthsOn_37 ?_
  refine v_top (fun x11 _ => ?_)
  refine v_istore (lv' := [(0, .ref (ad 1)), (1, .int x), (2, .int y), (3, .int z), (4, .int r1), (5, .int r4), (6, .int x8), (7, .int x11)]) C [1, 2, 3, 4, 5, 6, 7, 0] dX0_monthsOn_38 (by decide) rfl ?_
  refine v_iload C 7 dX0_monthsOn_40 rfl ?_
  refine b_if_lt C 53 dX0_monthsOn_42 (by decide) (rfl : Int32.toInt x11 = _) (fun c12 => ?_) (fun c12 => ?_)
  · refine v_iconst (v := (-1)) C dX0_monthsOn_53 (by decide) ?_
    exact v_ret C dX0_monthsOn_54 rfl rfl ⟨(ti_any (-1)), rfl⟩
  · refine v_iload C 7 dX0_monthsOn_45 rfl ?_
    refine v_sipush (v := 1200) C dX0_monthsOn_47 (by decide) ?_
    refine b_icmp_lt C 55 dX0_monthsOn_50 (by decide) (rfl : Int32.toInt x11 = _) (show (1200 : Int32).toInt = 1200 by decide) (fun c13 => ?_) (fun c13 => ?_)
    · refine v_aload_n C 0 dX0_monthsOn_55 rfl rfl ?_
      refine v_iload C 7 dX0_monthsOn_56 rfl ?_
      refine v_bipush (v := 12) C dX0_monthsOn_58 (by decide) ?_
      refine v_idiv C dX0_monthsOn_60 (by decide) ?_
      refine v_top (fun x14 ex14 => ?_)
      have hx14 : x14.toInt = (x11.toInt / 12) := by rw [ex14]; exact ti_div (rfl : Int32.toInt x11 = _) (show (12 : Int32).toInt = 12 by decide) (by omega) (by omega)
      refine v_iload C 7 dX0_monthsOn_61 rfl ?_
      refine v_bipush (v := 12) C dX0_monthsOn_63 (by decide) ?_
      refine v_irem C dX0_monthsOn_65 (by decide) ?_
      refine v_top (fun x15 ex15 => ?_)
      have hx15 : x15.toInt = (x11.toInt % 12) := by rw [ex15]; exact ti_rem (rfl : Int32.toInt x11 = _) (show (12 : Int32).toInt = 12 by decide) (by omega) (by omega)
      refine v_cVp C dX0_monthsOn_66 lX0_58 mX0_firstDay 1 (by omega) hC13 (by decide) rfl (t_X0_firstDay l G ad hJ x14 (show (0 : Int) ≤ Int32.toInt x14 ∧ Int32.toInt x14 ≤ 99 by have := hx14; omega) x15 (show (0 : Int) ≤ Int32.toInt x15 ∧ Int32.toInt x15 ≤ 11 by have := hx15; omega)) ⟨by decide, by decide⟩ rfl (Nat.le_of_ble_eq_true rfl) ⟨Nat.zero_le _, Nat.zero_le _⟩ (fun r16 hp17 => ?_)
      refine v_istore (lv' := [(0, .ref (ad 1)), (1, .int x), (2, .int y), (3, .int z), (4, .int r1), (5, .int r4), (6, .int x8), (7, .int x11), (8, .int r16)]) C [1, 2, 3, 4, 5, 6, 7, 8, 0] dX0_monthsOn_69 (by decide) rfl ?_
      refine v_aload_n C 0 dX0_monthsOn_71 rfl rfl ?_
      refine v_iload C 7 dX0_monthsOn_72 rfl ?_
      refine v_bipush (v := 12) C dX0_monthsOn_74 (by decide) ?_
      refine v_idiv C dX0_monthsOn_76 (by decide) ?_
      refine v_top (fun x18 ex18 => ?_)
      have hx18 : x18.toInt = (x11.toInt / 12) := by rw [ex18]; exact ti_div (rfl : Int32.toInt x11 = _) (show (12 : Int32).toInt = 12 by decide) (by omega) (by omega)
      refine v_iload C 7 dX0_monthsOn_77 rfl ?_
      refine v_bipush (v := 12) C dX0_monthsOn_79 (by decide) ?_
      refine v_irem C dX0_monthsOn_81 (by decide) ?_
      refine v_top (fun x19 ex19 => ?_)
      have hx19 : x19.toInt = (x11.toInt % 12) := by rw [ex19]; exact ti_rem (rfl : Int32.toInt x11 = _) (show (12 : Int32).toInt = 12 by decide) (by omega) (by omega)
      refine v_cVp C dX0_monthsOn_82 lX0_61 mX0_daysIn 1 (by omega) hC13 (by decide) rfl (t_X0_daysIn l G ad hJ x18 (show (0 : Int) ≤ Int32.toInt x18 ∧ Int32.toInt x18 ≤ 99 by have := hx18; omega) x19 (show (0 : Int) ≤ Int32.toInt x19 ∧ Int32.toInt x19 ≤ 11 by have := hx19; omega)) ⟨by decide, by decide⟩ rfl (Nat.le_of_ble_eq_true rfl) ⟨Nat.zero_le _, Nat.zero_le _⟩ (fun r20 hp21 => ?_)
      refine v_istore (lv' := [(0, .ref (ad 1)), (1, .int x), (2, .int y), (3, .int z), (4, .int r1), (5, .int r4), (6, .int x8), (7, .int x11), (8, .int r16), (9, .int r20)]) C [1, 2, 3, 4, 5, 6, 7, 8, 9, 0] dX0_monthsOn_85 (by decide) rfl ?_
      refine v_iload C 8 dX0_monthsOn_87 rfl ?_
      refine v_iload C 6 dX0_monthsOn_89 rfl ?_
      refine v_iadd C dX0_monthsOn_91 ?_
      refine v_top (fun x22 _ => ?_)
      refine v_istore (lv' := [(0, .ref (ad 1)), (1, .int x), (2, .int y), (3, .int z), (4, .int r1), (5, .int r4), (6, .int x8), (7, .int x11), (8, .int r16), (9, .int r20), (10, .int x22)]) C [1, 2, 3, 4, 5, 6, 7, 8, 9, 10, 0] dX0_monthsOn_92 (by decide) rfl ?_
      refine v_iload C 6 dX0_monthsOn_94 rfl ?_
      refine v_iload C 9 dX0_monthsOn_96 rfl ?_
      refine b_icmp_lt C 108 dX0_monthsOn_98 (by decide) (rfl : Int32.toInt x8 = _) (rfl : Int32.toInt r20 = _) (fun c23 => ?_) (fun c23 => ?_)
      · refine v_iload C 6 dX0_monthsOn_108 rfl ?_
        refine v_iload C 9 dX0_monthsOn_110 rfl ?_
        refine b_icmp_lt C 128 dX0_monthsOn_112 (by decide) (rfl : Int32.toInt x8 = _) (rfl : Int32.toInt r20 = _) (fun c24 => ?_) (fun c24 => ?_)
        · refine v_aload_n C 0 dX0_monthsOn_128 rfl rfl ?_
          refine v_iload C 10 dX0_monthsOn_129 rfl ?_
          refine v_cVp C dX0_monthsOn_131 lX0_64 mX0_has 1 (by omega) hC13 (by decide) rfl (c_has l G _ ad _ (by omega) hC13 hC23 hC33 hC43 hC53 hCP3 hCF3 x22) ⟨by decide, by decide⟩ rfl (Nat.le_of_ble_eq_true rfl) ⟨Nat.zero_le _, Nat.zero_le _⟩ (fun r25 hp26 => ?_)
          rcases hp26 with ⟨rfl, hp26⟩ | ⟨rfl, hp26⟩
          · refine b_if_eq C 142 dX0_monthsOn_134 (by decide) (show (1 : Int32).toInt = 1 by decide) (fun c27 => absurd c27 (by decide)) (fun c27 => ?_)
            refine v_iload C 10 dX0_monthsOn_137 rfl ?_
            refine v_goto C 143 dX0_monthsOn_139 (by decide) ?_
            exact v_ret C dX0_monthsOn_143 rfl rfl ⟨(ti_any x22), rfl⟩
          · refine b_if_eq C 142 dX0_monthsOn_134 (by decide) (show (0 : Int32).toInt = 0 by decide) (fun c28 => ?_) (fun c28 => absurd c28 (by decide))
            refine v_iconst (v := (-1)) C dX0_monthsOn_142 (by decide) ?_
            exact v_ret C dX0_monthsOn_143 rfl rfl ⟨(ti_any (-1)), rfl⟩
        · refine v_iload_n C 3 dX0_monthsOn_115 rfl rfl ?_
          refine b_if_ne C 128 dX0_monthsOn_116 (by decide) (rfl : Int32.toInt z = _) (fun c29 => ?_) (fun c29 => ?_)
          · refine v_aload_n C 0 dX0_monthsOn_128 rfl rfl ?_
            refine v_iload C 10 dX0_monthsOn_129 rfl ?_
            refine v_cVp C dX0_monthsOn_131 lX0_64 mX0_has 1 (by omega) hC13 (by decide) rfl (c_has l G _ ad _ (by omega) hC13 hC23 hC33 hC43 hC53 hCP3 hCF3 x22) ⟨by decide, by decide⟩ rfl (Nat.le_of_ble_eq_true rfl) ⟨Nat.zero_le _, Nat.zero_le _⟩ (fun r30 hp31 => ?_)
            rcases hp31 with ⟨rfl, hp31⟩ | ⟨rfl, hp31⟩
            · refine b_if_eq C 142 dX0_monthsOn_134 (by decide) (show (1 : Int32).toInt = 1 by decide) (fun c32 => absurd c32 (by decide)) (fun c32 => ?_)
              refine v_iload C 10 dX0_monthsOn_137 rfl ?_
              refine v_goto C 143 dX0_monthsOn_139 (by decide) ?_
              exact v_ret C dX0_monthsOn_143 rfl rfl ⟨(ti_any x22), rfl⟩
            · refine b_if_eq C 142 dX0_monthsOn_134 (by decide) (show (0 : Int32).toInt = 0 by decide) (fun c33 => ?_) (fun c33 => absurd c33 (by decide))
              refine v_iconst (v := (-1)) C dX0_monthsOn_142 (by decide) ?_
              exact v_ret C dX0_monthsOn_143 rfl rfl ⟨(ti_any (-1)), rfl⟩
          · refine v_iload C 8 dX0_monthsOn_119 rfl ?_
            refine v_iload C 9 dX0_monthsOn_121 rfl ?_
            refine v_iadd C dX0_monthsOn_123 ?_
            refine v_top (fun x34 _ => ?_)
            refine v_iconst (v := 1) C dX0_monthsOn_124 (by decide) ?_
            refine v_isub C dX0_monthsOn_125 ?_
            refine v_top (fun x35 _ => ?_)
            refine v_istore (lv' := [(0, .ref (ad 1)), (1, .int x), (2, .int y), (3, .int z), (4, .int r1), (5, .int r4), (6, .int x8), (7, .int x11), (8, .int r16), (9, .int r20), (10, .int x35)]) C [1, 2, 3, 4, 5, 6, 7, 8, 9, 10, 0] dX0_monthsOn_126 (by decide) rfl ?_
            refine v_aload_n C 0 dX0_monthsOn_128 rfl rfl ?_
            refine v_iload C 10 dX0_monthsOn_129 rfl ?_
            refine v_cVp C dX0_monthsOn_131 lX0_64 mX0_has 1 (by omega) hC13 (by decide) rfl (c_has l G _ ad _ (by omega) hC13 hC23 hC33 hC43 hC53 hCP3 hCF3 x35) ⟨by decide, by decide⟩ rfl (Nat.le_of_ble_eq_true rfl) ⟨Nat.zero_le _, Nat.zero_le _⟩ (fun r36 hp37 => ?_)
            rcases hp37 with ⟨rfl, hp37⟩ | ⟨rfl, hp37⟩
            · refine b_if_eq C 142 dX0_monthsOn_134 (by decide) (show (1 : Int32).toInt = 1 by decide) (fun c38 => absurd c38 (by decide)) (fun c38 => ?_)
              refine v_iload C 10 dX0_monthsOn_137 rfl ?_
              refine v_goto C 143 dX0_monthsOn_139 (by decide) ?_
              exact v_ret C dX0_monthsOn_143 rfl rfl ⟨(ti_any x35), rfl⟩
            · refine b_if_eq C 142 dX0_monthsOn_134 (by decide) (show (0 : Int32).toInt = 0 by decide) (fun c39 => ?_) (fun c39 => absurd c39 (by decide))
              refine v_iconst (v := (-1)) C dX0_monthsOn_142 (by decide) ?_
              exact v_ret C dX0_monthsOn_143 rfl rfl ⟨(ti_any (-1)), rfl⟩
      · refine v_iload_n C 3 dX0_monthsOn_101 rfl rfl ?_
        refine v_iconst (v := 2) C dX0_monthsOn_102 (by decide) ?_
        refine b_icmp_ne C 108 dX0_monthsOn_103 (by decide) (rfl : Int32.toInt z = _) (show (2 : Int32).toInt = 2 by decide) (fun c40 => ?_) (fun c40 => ?_)
        · refine v_iload C 6 dX0_monthsOn_108 rfl ?_
          refine v_iload C 9 dX0_monthsOn_110 rfl ?_
          refine b_icmp_lt C 128 dX0_monthsOn_112 (by decide) (rfl : Int32.toInt x8 = _) (rfl : Int32.toInt r20 = _) (fun c41 => ?_) (fun c41 => ?_)
          · refine v_aload_n C 0 dX0_monthsOn_128 rfl rfl ?_
            refine v_iload C 10 dX0_monthsOn_129 rfl ?_
            refine v_cVp C dX0_monthsOn_131 lX0_64 mX0_has 1 (by omega) hC13 (by decide) rfl (c_has l G _ ad _ (by omega) hC13 hC23 hC33 hC43 hC53 hCP3 hCF3 x22) ⟨by decide, by decide⟩ rfl (Nat.le_of_ble_eq_true rfl) ⟨Nat.zero_le _, Nat.zero_le _⟩ (fun r42 hp43 => ?_)
            rcases hp43 with ⟨rfl, hp43⟩ | ⟨rfl, hp43⟩
            · refine b_if_eq C 142 dX0_monthsOn_134 (by decide) (show (1 : Int32).toInt = 1 by decide) (fun c44 => absurd c44 (by decide)) (fun c44 => ?_)
              refine v_iload C 10 dX0_monthsOn_137 rfl ?_
              refine v_goto C 143 dX0_monthsOn_139 (by decide) ?_
              exact v_ret C dX0_monthsOn_143 rfl rfl ⟨(ti_any x22), rfl⟩
            · refine b_if_eq C 142 dX0_monthsOn_134 (by decide) (show (0 : Int32).toInt = 0 by decide) (fun c45 => ?_) (fun c45 => absurd c45 (by decide))
              refine v_iconst (v := (-1)) C dX0_monthsOn_142 (by decide) ?_
              exact v_ret C dX0_monthsOn_143 rfl rfl ⟨(ti_any (-1)), rfl⟩
          · refine v_iload_n C 3 dX0_monthsOn_115 rfl rfl ?_
            refine b_if_ne C 128 dX0_monthsOn_116 (by decide) (rfl : Int32.toInt z = _) (fun c46 => ?_) (fun c46 => ?_)
            · refine v_aload_n C 0 dX0_monthsOn_128 rfl rfl ?_
              refine v_iload C 10 dX0_monthsOn_129 rfl ?_
              refine v_cVp C dX0_monthsOn_131 lX0_64 mX0_has 1 (by omega) hC13 (by decide) rfl (c_has l G _ ad _ (by omega) hC13 hC23 hC33 hC43 hC53 hCP3 hCF3 x22) ⟨by decide, by decide⟩ rfl (Nat.le_of_ble_eq_true rfl) ⟨Nat.zero_le _, Nat.zero_le _⟩ (fun r47 hp48 => ?_)
              rcases hp48 with ⟨rfl, hp48⟩ | ⟨rfl, hp48⟩
              · refine b_if_eq C 142 dX0_monthsOn_134 (by decide) (show (1 : Int32).toInt = 1 by decide) (fun c49 => absurd c49 (by decide)) (fun c49 => ?_)
                refine v_iload C 10 dX0_monthsOn_137 rfl ?_
                refine v_goto C 143 dX0_monthsOn_139 (by decide) ?_
                exact v_ret C dX0_monthsOn_143 rfl rfl ⟨(ti_any x22), rfl⟩
              · refine b_if_eq C 142 dX0_monthsOn_134 (by decide) (show (0 : Int32).toInt = 0 by decide) (fun c50 => ?_) (fun c50 => absurd c50 (by decide))
                refine v_iconst (v := (-1)) C dX0_monthsOn_142 (by decide) ?_
                exact v_ret C dX0_monthsOn_143 rfl rfl ⟨(ti_any (-1)), rfl⟩
            · refine v_iload C 8 dX0_monthsOn_119 rfl ?_
              refine v_iload C 9 dX0_monthsOn_121 rfl ?_
              refine v_iadd C dX0_monthsOn_123 ?_
              refine v_top (fun x51 _ => ?_)
              refine v_iconst (v := 1) C dX0_monthsOn_124 (by decide) ?_
              refine v_isub C dX0_monthsOn_125 ?_
              refine v_top (fun x52 _ => ?_)
              refine v_istore (lv' := [(0, .ref (ad 1)), (1, .int x), (2, .int y), (3, .int z), (4, .int r1), (5, .int r4), (6, .int x8), (7, .int x11), (8, .int r16), (9, .int r20), (10, .int x52)]) C [1, 2, 3, 4, 5, 6, 7, 8, 9, 10, 0] dX0_monthsOn_126 (by decide) rfl ?_
              refine v_aload_n C 0 dX0_monthsOn_128 rfl rfl ?_
              refine v_iload C 10 dX0_monthsOn_129 rfl ?_
              refine v_cVp C dX0_monthsOn_131 lX0_64 mX0_has 1 (by omega) hC13 (by decide) rfl (c_has l G _ ad _ (by omega) hC13 hC23 hC33 hC43 hC53 hCP3 hCF3 x52) ⟨by decide, by decide⟩ rfl (Nat.le_of_ble_eq_true rfl) ⟨Nat.zero_le _, Nat.zero_le _⟩ (fun r53 hp54 => ?_)
              rcases hp54 with ⟨rfl, hp54⟩ | ⟨rfl, hp54⟩
              · refine b_if_eq C 142 dX0_monthsOn_134 (by decide) (show (1 : Int32).toInt = 1 by decide) (fun c55 => absurd c55 (by decide)) (fun c55 => ?_)
                refine v_iload C 10 dX0_monthsOn_137 rfl ?_
                refine v_goto C 143 dX0_monthsOn_139 (by decide) ?_
                exact v_ret C dX0_monthsOn_143 rfl rfl ⟨(ti_any x52), rfl⟩
              · refine b_if_eq C 142 dX0_monthsOn_134 (by decide) (show (0 : Int32).toInt = 0 by decide) (fun c56 => ?_) (fun c56 => absurd c56 (by decide))
                refine v_iconst (v := (-1)) C dX0_monthsOn_142 (by decide) ?_
                exact v_ret C dX0_monthsOn_143 rfl rfl ⟨(ti_any (-1)), rfl⟩
        · refine v_iconst (v := (-1)) C dX0_monthsOn_106 (by decide) ?_
          exact v_ret C dX0_monthsOn_107 rfl rfl ⟨(ti_any (-1)), rfl⟩
    · refine v_iconst (v := (-1)) C dX0_monthsOn_53 (by decide) ?_
      exact v_ret C dX0_monthsOn_54 rfl rfl ⟨(ti_any (-1)), rfl⟩

set_option maxRecDepth 20000 in
theorem t_X2_isWithin (l : Launch) (G : Gl) (ad : Nat → Nat) {k : Nat} {E0 E : Nat → va_E} (hJ : J8 G ad k E0 E) (x : Int32) (y : Int32) : CtI l G yX2_isWithin cX2_isWithin 3 .boolean 2 41 (98 + 9 * k) ad E [.ref (ad 49), .int x, .int y] (fun r E' => (r = 0 ∨ r = 1) ∧ E = E') := by
  refine CtI.of (by decide) (Nat.le_of_ble_eq_true rfl) (fun X A C => ?_)
  refine v_sub (lv' := [(0, .ref (ad 49)), (1, .int x), (2, .int y)]) [0, 1, 2] rfl ?_
  have hk5 := hJ.1
  refine v_iload_n C 1 dX2_isWithin_0 rfl rfl ?_
  have q1v : Int32.toInt x = x.toInt := (rfl : Int32.toInt x = _)
  rcases (show x.toInt = 0 ∨ x.toInt = 1 ∨ x.toInt = 2 ∨ (x.toInt < 0 ∨ 2 < x.toInt) by omega) with q1 | q1 | q1 | q1
  · refine v_tableIn (off := 27) C 28 dX2_isWithin_1 (by omega) (by omega) (by rw [q1v, q1]; rfl) (by decide) ?_
    refine v_iload_n C 2 dX2_isWithin_28 rfl rfl ?_
    refine v_cSNp C dX2_isWithin_29 (List.mem_of_getElem? (i := 5) rfl) mX8_isMoment (c_isMoment l G _ ad _ y) ⟨by decide, by decide⟩ rfl (Nat.le_of_ble_eq_true rfl) ⟨Nat.zero_le _, Nat.zero_le _⟩ (fun r2 hp3 => ?_)
    rcases hp3 with ⟨rfl, hp3⟩ | ⟨rfl, hp3⟩
    · exact v_ret C dX2_isWithin_32 rfl rfl ⟨Or.inr rfl, rfl⟩
    · exact v_ret C dX2_isWithin_32 rfl rfl ⟨Or.inl rfl, rfl⟩
  · refine v_tableIn (off := 32) C 33 dX2_isWithin_1 (by omega) (by omega) (by rw [q1v, q1]; rfl) (by decide) ?_
    refine v_aload_n C 0 dX2_isWithin_33 rfl rfl ?_
    obtain ⟨i4, hE4, hb4⟩ := hJ.2.2.getO (b := 49) (by omega) rfl
    refine v_getr C 49 dX2_isWithin_34 fX2_15 (by omega) hE4 rfl rfl ?_
    refine v_iload_n C 2 dX2_isWithin_37 rfl rfl ?_
    obtain ⟨ic7, md7, ms7, ld7, ys7, hC17, hC27, hC37, hC47, hC57, hCP7, hCF7⟩ := hJ.cal
    have hCl7 := cal_b hCP7
    have hCy7 := cal_y hCP7
    refine v_cVp C dX2_isWithin_38 lX2_80 mX0_hasWall 1 (by omega) hC17 (by decide) rfl (c_hasWall l G _ ad _ (by omega) hC17 hC27 hC37 hC47 hC57 hCP7 hCF7 y) ⟨by decide, by decide⟩ rfl (Nat.le_of_ble_eq_true rfl) ⟨Nat.zero_le _, Nat.zero_le _⟩ (fun r5 hp6 => ?_)
    rcases hp6 with ⟨rfl, hp6⟩ | ⟨rfl, hp6⟩
    · exact v_ret C dX2_isWithin_41 rfl rfl ⟨Or.inr rfl, rfl⟩
    · exact v_ret C dX2_isWithin_41 rfl rfl ⟨Or.inl rfl, rfl⟩
  · refine v_tableIn (off := 41) C 42 dX2_isWithin_1 (by omega) (by omega) (by rw [q1v, q1]; rfl) (by decide) ?_
    refine v_aload_n C 0 dX2_isWithin_42 rfl rfl ?_
    obtain ⟨i8, hE8, hb8⟩ := hJ.2.2.getO (b := 49) (by omega) rfl
    refine v_getr C 49 dX2_isWithin_43 fX2_15 (by omega) hE8 rfl rfl ?_
    refine v_iload_n C 2 dX2_isWithin_46 rfl rfl ?_
    obtain ⟨ic11, md11, ms11, ld11, ys11, hC111, hC211, hC311, hC411, hC511, hCP11, hCF11⟩ := hJ.cal
    have hCl11 := cal_b hCP11
    have hCy11 := cal_y hCP11
    refine v_cVp C dX2_isWithin_47 lX2_83 mX0_has 1 (by omega) hC111 (by decide) rfl (c_has l G _ ad _ (by omega) hC111 hC211 hC311 hC411 hC511 hCP11 hCF11 y) ⟨by decide, by decide⟩ rfl (Nat.le_of_ble_eq_true rfl) ⟨Nat.zero_le _, Nat.zero_le _⟩ (fun r9 hp10 => ?_)
    rcases hp10 with ⟨rfl, hp10⟩ | ⟨rfl, hp10⟩
    · exact v_ret C dX2_isWithin_50 rfl rfl ⟨Or.inr rfl, rfl⟩
    · exact v_ret C dX2_isWithin_50 rfl rfl ⟨Or.inl rfl, rfl⟩
  · refine v_tableOut C 51 dX2_isWithin_1 (by omega) (by decide) ?_
    refine v_iload_n C 2 dX2_isWithin_51 rfl rfl ?_
    refine v_ldc C dX2_isWithin_52 kX2_86 ?_
    refine b_icmp_lt C 67 dX2_isWithin_54 (by decide) (rfl : Int32.toInt y = _) (show ((-99999999) : Int32).toInt = (-99999999) by decide) (fun c12 => ?_) (fun c12 => ?_)
    · refine v_iconst (v := 0) C dX2_isWithin_67 (by decide) ?_
      exact v_ret C dX2_isWithin_68 rfl rfl ⟨Or.inl rfl, rfl⟩
    · refine v_iload_n C 2 dX2_isWithin_57 rfl rfl ?_
      refine v_ldc C dX2_isWithin_58 kX2_87 ?_
      refine b_icmp_gt C 67 dX2_isWithin_60 (by decide) (rfl : Int32.toInt y = _) (show (99999999 : Int32).toInt = 99999999 by decide) (fun c13 => ?_) (fun c13 => ?_)
      · refine v_iconst (v := 0) C dX2_isWithin_67 (by decide) ?_
        exact v_ret C dX2_isWithin_68 rfl rfl ⟨Or.inl rfl, rfl⟩
      · refine v_iconst (v := 1) C dX2_isWithin_63 (by decide) ?_
        refine v_goto C 68 dX2_isWithin_64 (by decide) ?_
        exact v_ret C dX2_isWithin_68 rfl rfl ⟨Or.inr rfl, rfl⟩

set_option maxRecDepth 20000 in
theorem t_X2_joined (l : Launch) (G : Gl) (ad : Nat → Nat) {k : Nat} {E0 E : Nat → va_E} (hJ : J8 G ad k E0 E) (c : Nat) (hc : PC c) (i : Int32) (hi : (0 : Int) ≤ i.toInt ∧ i.toInt ≤ 9) (x : Int32) (y : Int32) : CtI l G yX2_joined cX2_joined 6 .int 0 0 (98 + 9 * k) ad E [.ref (ad 49), .ref (ad c), .int i, .int x, .int y] (fun r E' => ((-2147483648 : Int) ≤ r.toInt ∧ r.toInt ≤ 2147483647) ∧ E = E') := by
  refine CtI.of (by decide) (Nat.le_of_ble_eq_true rfl) (fun X A C => ?_)
  refine v_sub (lv' := [(0, .ref (ad 49)), (1, .ref (ad c)), (2, .int i), (3, .int x), (4, .int y)]) [0, 1, 2, 3, 4] rfl ?_
  have hk5 := hJ.1
  have hcn := hc.n
  refine v_aload_n C 1 dX2_joined_0 rfl rfl ?_
  obtain ⟨i1, hE1, hb1⟩ := hJ.2.2.getO (b := c) (by omega) (hc.t0 k)
  refine v_getr C c dX2_joined_1 fX2_29 (by omega) hE1 rfl rfl ?_
  refine v_iload_n C 2 dX2_joined_4 rfl rfl ?_
  obtain ⟨f2, hE2, hb2⟩ := hJ.2.2.getA (b := (c + 1)) (by omega) (hc.t1 k)
  refine v_ald (v := f2 (i.toInt).toNat) C (c + 1) dX2_joined_5 (by omega) hE2 (ti_in (rfl : Int32.toInt i = _) (by omega) (by omega)) (by rw [ti_cl (rfl : Int32.toInt i = _)]) ?_
  refine v_top (fun x3 _ => ?_)
  refine v_bipush (v := 9) C dX2_joined_6 (by decide) ?_
  refine b_icmp_ne C 16 dX2_joined_8 (by decide) (rfl : Int32.toInt x3 = _) (show (9 : Int32).toInt = 9 by decide) (fun c4 => ?_) (fun c4 => ?_)
  · refine v_iload_n C 2 dX2_joined_16 rfl rfl ?_
    refine b_if_le C 36 dX2_joined_17 (by decide) (rfl : Int32.toInt i = _) (fun c5 => ?_) (fun c5 => ?_)
    · refine v_iconst (v := 0) C dX2_joined_36 (by decide) ?_
      refine v_istore (lv' := [(0, .ref (ad 49)), (1, .ref (ad c)), (2, .int i), (3, .int x), (4, .int y), (5, .int 0)]) C [1, 2, 3, 4, 5, 0] dX2_joined_37 (by decide) rfl ?_
      refine v_iload C 5 dX2_joined_39 rfl ?_
      refine b_if_eq C 55 dX2_joined_41 (by decide) (show (0 : Int32).toInt = 0 by decide) (fun c6 => ?_) (fun c6 => absurd c6 (by decide))
      refine v_iload C 4 dX2_joined_55 rfl ?_
      refine v_iload_n C 3 dX2_joined_57 rfl rfl ?_
      refine v_isub C dX2_joined_58 ?_
      refine v_top (fun x7 _ => ?_)
      exact v_ret C dX2_joined_59 rfl rfl ⟨(ti_any x7), rfl⟩
    · refine v_aload_n C 1 dX2_joined_20 rfl rfl ?_
      refine v_getr C c dX2_joined_21 fX2_41 (by omega) hE1 rfl rfl ?_
      refine v_iload_n C 2 dX2_joined_24 rfl rfl ?_
      refine v_iconst (v := 1) C dX2_joined_25 (by decide) ?_
      refine v_isub C dX2_joined_26 ?_
      refine v_top (fun x8 ex8 => ?_)
      have hx8 : x8.toInt = (i.toInt - 1) := by rw [ex8]; exact ti_sub (rfl : Int32.toInt i = _) (show (1 : Int32).toInt = 1 by decide) (by omega) (by omega)
      obtain ⟨f9, hE9, hb9⟩ := hJ.2.2.getA (b := (c + 4)) (by omega) (hc.t4 k)
      refine v_ald (v := f9 ((i.toInt - 1)).toNat) C (c + 4) dX2_joined_27 (by omega) hE9 (ti_in hx8 (by omega) (by omega)) (by rw [ti_cl hx8]) ?_
      refine v_top (fun x10 _ => ?_)
      refine v_iconst (v := 2) C dX2_joined_28 (by decide) ?_
      refine b_icmp_ne C 36 dX2_joined_29 (by decide) (rfl : Int32.toInt x10 = _) (show (2 : Int32).toInt = 2 by decide) (fun c11 => ?_) (fun c11 => ?_)
      · refine v_iconst (v := 0) C dX2_joined_36 (by decide) ?_
        refine v_istore (lv' := [(0, .ref (ad 49)), (1, .ref (ad c)), (2, .int i), (3, .int x), (4, .int y), (5, .int 0)]) C [1, 2, 3, 4, 5, 0] dX2_joined_37 (by decide) rfl ?_
        refine v_iload C 5 dX2_joined_39 rfl ?_
        refine b_if_eq C 55 dX2_joined_41 (by decide) (show (0 : Int32).toInt = 0 by decide) (fun c12 => ?_) (fun c12 => absurd c12 (by decide))
        refine v_iload C 4 dX2_joined_55 rfl ?_
        refine v_iload_n C 3 dX2_joined_57 rfl rfl ?_
        refine v_isub C dX2_joined_58 ?_
        refine v_top (fun x13 _ => ?_)
        exact v_ret C dX2_joined_59 rfl rfl ⟨(ti_any x13), rfl⟩
      · refine v_iconst (v := 1) C dX2_joined_32 (by decide) ?_
        refine v_goto C 37 dX2_joined_33 (by decide) ?_
        refine v_istore (lv' := [(0, .ref (ad 49)), (1, .ref (ad c)), (2, .int i), (3, .int x), (4, .int y), (5, .int 1)]) C [1, 2, 3, 4, 5, 0] dX2_joined_37 (by decide) rfl ?_
        refine v_iload C 5 dX2_joined_39 rfl ?_
        refine b_if_eq C 55 dX2_joined_41 (by decide) (show (1 : Int32).toInt = 1 by decide) (fun c14 => absurd c14 (by decide)) (fun c14 => ?_)
        refine v_iload C 4 dX2_joined_44 rfl ?_
        refine v_iload_n C 3 dX2_joined_46 rfl rfl ?_
        refine v_isub C dX2_joined_47 ?_
        refine v_top (fun x15 _ => ?_)
        refine v_sipush (v := 1440) C dX2_joined_48 (by decide) ?_
        refine v_imul C dX2_joined_51 ?_
        refine v_top (fun x16 _ => ?_)
        refine v_goto C 59 dX2_joined_52 (by decide) ?_
        exact v_ret C dX2_joined_59 rfl rfl ⟨(ti_any x16), rfl⟩
  · refine v_iload_n C 3 dX2_joined_11 rfl rfl ?_
    refine v_iload C 4 dX2_joined_12 rfl ?_
    refine v_iadd C dX2_joined_14 ?_
    refine v_top (fun x17 _ => ?_)
    exact v_ret C dX2_joined_15 rfl rfl ⟨(ti_any x17), rfl⟩

set_option maxRecDepth 20000 in
theorem t_X2_changed (l : Launch) (G : Gl) (ad : Nat → Nat) {k : Nat} {E0 E : Nat → va_E} (hJ : J8 G ad k E0 E) (c : Nat) (hc : PC c) (i : Int32) (hi : (0 : Int) ≤ i.toInt ∧ i.toInt ≤ 9) (x : Int32) : CtI l G yX2_changed cX2_changed 7 .int 3 71 (98 + 9 * k) ad E [.ref (ad 49), .ref (ad c), .int i, .int x] (fun r E' => ((-2147483648 : Int) ≤ r.toInt ∧ r.toInt ≤ 2147483647) ∧ E = E') := by
  refine CtI.of (by decide) (Nat.le_of_ble_eq_true rfl) (fun X A C => ?_)
  refine v_sub (lv' := [(0, .ref (ad 49)), (1, .ref (ad c)), (2, .int i), (3, .int x)]) [0, 1, 2, 3] rfl ?_
  have hk5 := hJ.1
  have hcn := hc.n
  refine v_aload_n C 1 dX2_changed_0 rfl rfl ?_
  obtain ⟨i1, hE1, hb1⟩ := hJ.2.2.getO (b := c) (by omega) (hc.t0 k)
  refine v_getr C c dX2_changed_1 fX2_48 (by omega) hE1 rfl rfl ?_
  refine v_iload_n C 2 dX2_changed_4 rfl rfl ?_
  obtain ⟨f2, hE2, hb2⟩ := hJ.2.2.getA (b := (c + 2)) (by omega) (hc.t2 k)
  refine v_ald (v := f2 (i.toInt).toNat) C (c + 2) dX2_changed_5 (by omega) hE2 (ti_in (rfl : Int32.toInt i = _) (by omega) (by omega)) (by rw [ti_cl (rfl : Int32.toInt i = _)]) ?_
  refine v_top (fun x3 _ => ?_)
  refine v_istore (lv' := [(0, .ref (ad 49)), (1, .ref (ad c)), (2, .int i), (3, .int x), (4, .int x3)]) C [1, 2, 3, 4, 0] dX2_changed_6 (by decide) rfl ?_
  refine v_aload_n C 1 dX2_changed_8 rfl rfl ?_
  refine v_getr C c dX2_changed_9 fX2_51 (by omega) hE1 rfl rfl ?_
  refine v_iload_n C 2 dX2_changed_12 rfl rfl ?_
  obtain ⟨f4, hE4, hb4⟩ := hJ.2.2.getA (b := (c + 3)) (by omega) (hc.t3 k)
  refine v_ald (v := f4 (i.toInt).toNat) C (c + 3) dX2_changed_13 (by omega) hE4 (ti_in (rfl : Int32.toInt i = _) (by omega) (by omega)) (by rw [ti_cl (rfl : Int32.toInt i = _)]) ?_
  refine v_top (fun x5 _ => ?_)
  refine v_istore (lv' := [(0, .ref (ad 49)), (1, .ref (ad c)), (2, .int i), (3, .int x), (4, .int x3), (5, .int x5)]) C [1, 2, 3, 4, 5, 0] dX2_changed_14 (by decide) rfl ?_
  refine v_aload_n C 0 dX2_changed_16 rfl rfl ?_
  obtain ⟨i6, hE6, hb6⟩ := hJ.2.2.getO (b := 49) (by omega) rfl
  refine v_getr C 49 dX2_changed_17 fX2_19 (by omega) hE6 rfl rfl ?_
  refine v_iload C 4 dX2_changed_20 rfl ?_
  obtain ⟨i9, hE9, hb9⟩ := hJ.2.2.getO (b := 6) (by omega) rfl
  refine v_cVr C dX2_changed_22 lX2_54 mX7_at 6 (by omega) hE9 (by decide) rfl (t_X7_at l G ad hJ x3) ⟨by decide, by decide⟩ rfl (Nat.le_of_ble_eq_true rfl) ⟨Nat.zero_le _, Nat.zero_le _⟩ (fun r7 hp8 => ?_)
  rcases hp8 with ⟨hno10, rfl⟩ | ⟨i10x, hi10, hk10, rfl⟩
  · refine v_astoreN (lv' := [(0, .ref (ad 49)), (1, .ref (ad c)), (2, .int i), (3, .int x), (4, .int x3), (5, .int x5), (6, .null)]) C [1, 2, 3, 4, 5, 6, 0] dX2_changed_25 (by decide) rfl ?_
    refine v_aload_n C 1 dX2_changed_27 rfl rfl ?_
    refine v_getr C c dX2_changed_28 fX2_29 (by omega) hE1 rfl rfl ?_
    refine v_iload_n C 2 dX2_changed_31 rfl rfl ?_
    obtain ⟨f11, hE11, hb11⟩ := hJ.2.2.getA (b := (c + 1)) (by omega) (hc.t1 k)
    refine v_ald (v := f11 (i.toInt).toNat) C (c + 1) dX2_changed_32 (by omega) hE11 (ti_in (rfl : Int32.toInt i = _) (by omega) (by omega)) (by rw [ti_cl (rfl : Int32.toInt i = _)]) ?_
    refine v_top (fun x12 _ => ?_)
    have q13v : Int32.toInt x12 = x12.toInt := (rfl : Int32.toInt x12 = _)
    rcases (show x12.toInt = 1 ∨ x12.toInt = 2 ∨ x12.toInt = 3 ∨ x12.toInt = 4 ∨ x12.toInt = 5 ∨ x12.toInt = 6 ∨ x12.toInt = 7 ∨ (x12.toInt < 1 ∨ 7 < x12.toInt) by omega) with q13 | q13 | q13 | q13 | q13 | q13 | q13 | q13
    · refine v_tableIn (off := 43) C 76 dX2_changed_33 (by omega) (by omega) (by rw [q13v, q13]; rfl) (by decide) ?_
      refine v_aloadN C 6 dX2_changed_76 rfl ?_
      refine v_ifnonnullN C dX2_changed_78 ?_
      refine v_ldc C dX2_changed_81 kX2_32 ?_
      refine v_goto C 94 dX2_changed_83 (by decide) ?_
      exact v_ret C dX2_changed_94 rfl rfl ⟨(ti_any (-2000000000)), rfl⟩
    · refine v_tableIn (off := 62) C 95 dX2_changed_33 (by omega) (by omega) (by rw [q13v, q13]; rfl) (by decide) ?_
      refine v_iload_n C 3 dX2_changed_95 rfl rfl ?_
      refine v_sipush (v := 1440) C dX2_changed_96 (by decide) ?_
      refine v_idiv C dX2_changed_99 (by decide) ?_
      refine v_top (fun x14 ex14 => ?_)
      have hx14 : (-1491308 : Int) ≤ x14.toInt ∧ x14.toInt ≤ 1491308 := by rw [ex14]; exact ti_tdb (show (1440 : Int32).toInt = 1440 by decide) (by decide)
      exact v_ret C dX2_changed_100 rfl rfl ⟨(ti_any x14), rfl⟩
    · refine v_tableIn (off := 68) C 101 dX2_changed_33 (by omega) (by omega) (by rw [q13v, q13]; rfl) (by decide) ?_
      refine v_iload_n C 3 dX2_changed_101 rfl rfl ?_
      refine v_sipush (v := 1440) C dX2_changed_102 (by decide) ?_
      refine v_imul C dX2_changed_105 ?_
      refine v_top (fun x15 _ => ?_)
      refine v_iload C 4 dX2_changed_106 rfl ?_
      refine v_iadd C dX2_changed_108 ?_
      refine v_top (fun x16 _ => ?_)
      exact v_ret C dX2_changed_109 rfl rfl ⟨(ti_any x16), rfl⟩
    · refine v_tableIn (off := 77) C 110 dX2_changed_33 (by omega) (by omega) (by rw [q13v, q13]; rfl) (by decide) ?_
      refine v_aloadN C 6 dX2_changed_110 rfl ?_
      refine v_ifnonnullN C dX2_changed_112 ?_
      refine v_ldc C dX2_changed_115 kX2_32 ?_
      refine v_goto C 137 dX2_changed_117 (by decide) ?_
      exact v_ret C dX2_changed_137 rfl rfl ⟨(ti_any (-2000000000)), rfl⟩
    · refine v_tableIn (off := 105) C 138 dX2_changed_33 (by omega) (by omega) (by rw [q13v, q13]; rfl) (by decide) ?_
      refine v_iload_n C 3 dX2_changed_138 rfl rfl ?_
      refine v_iload C 4 dX2_changed_139 rfl ?_
      refine v_iadd C dX2_changed_141 ?_
      refine v_top (fun x17 _ => ?_)
      exact v_ret C dX2_changed_142 rfl rfl ⟨(ti_any x17), rfl⟩
    · refine v_tableIn (off := 110) C 143 dX2_changed_33 (by omega) (by omega) (by rw [q13v, q13]; rfl) (by decide) ?_
      refine v_aload_n C 1 dX2_changed_143 rfl rfl ?_
      refine v_getr C c dX2_changed_144 fX2_41 (by omega) hE1 rfl rfl ?_
      refine v_iload_n C 2 dX2_changed_147 rfl rfl ?_
      obtain ⟨f18, hE18, hb18⟩ := hJ.2.2.getA (b := (c + 4)) (by omega) (hc.t4 k)
      refine v_ald (v := f18 (i.toInt).toNat) C (c + 4) dX2_changed_148 (by omega) hE18 (ti_in (rfl : Int32.toInt i = _) (by omega) (by omega)) (by rw [ti_cl (rfl : Int32.toInt i = _)]) ?_
      refine v_top (fun x19 _ => ?_)
      refine v_iconst (v := 2) C dX2_changed_149 (by decide) ?_
      refine b_icmp_ne C 160 dX2_changed_150 (by decide) (rfl : Int32.toInt x19 = _) (show (2 : Int32).toInt = 2 by decide) (fun c20 => ?_) (fun c20 => ?_)
      · refine v_iload_n C 3 dX2_changed_160 rfl rfl ?_
        refine v_iload C 4 dX2_changed_161 rfl ?_
        refine v_sipush (v := 1440) C dX2_changed_163 (by decide) ?_
        refine v_imul C dX2_changed_166 ?_
        refine v_top (fun x21 _ => ?_)
        refine v_iadd C dX2_changed_167 ?_
        refine v_top (fun x22 _ => ?_)
        exact v_ret C dX2_changed_168 rfl rfl ⟨(ti_any x22), rfl⟩
      · refine v_iload_n C 3 dX2_changed_153 rfl rfl ?_
        refine v_iload C 4 dX2_changed_154 rfl ?_
        refine v_iadd C dX2_changed_156 ?_
        refine v_top (fun x23 _ => ?_)
        refine v_goto C 168 dX2_changed_157 (by decide) ?_
        exact v_ret C dX2_changed_168 rfl rfl ⟨(ti_any x23), rfl⟩
    · refine v_tableIn (off := 136) C 169 dX2_changed_33 (by omega) (by omega) (by rw [q13v, q13]; rfl) (by decide) ?_
      refine v_aload_n C 0 dX2_changed_169 rfl rfl ?_
      refine v_getr C 49 dX2_changed_170 fX2_15 (by omega) hE6 rfl rfl ?_
      refine v_iload_n C 3 dX2_changed_173 rfl rfl ?_
      refine v_iload C 4 dX2_changed_174 rfl ?_
      refine v_iload C 5 dX2_changed_176 rfl ?_
      obtain ⟨ic26, md26, ms26, ld26, ys26, hC126, hC226, hC326, hC426, hC526, hCP26, hCF26⟩ := hJ.cal
      have hCl26 := cal_b hCP26
      have hCy26 := cal_y hCP26
      refine v_cVp C dX2_changed_178 lX2_70 mX0_monthsOn 1 (by omega) hC126 (by decide) rfl (t_X0_monthsOn l G ad hJ x x3 x5) ⟨by decide, by decide⟩ rfl (Nat.le_of_ble_eq_true rfl) ⟨Nat.zero_le _, Nat.zero_le _⟩ (fun r24 hp25 => ?_)
      exact v_ret C dX2_changed_181 rfl rfl ⟨(ti_any r24), rfl⟩
    · refine v_tableOut C 182 dX2_changed_33 (by omega) (by decide) ?_
      refine v_ldc C dX2_changed_182 kX2_32 ?_
      exact v_ret C dX2_changed_184 rfl rfl ⟨(ti_any (-2000000000)), rfl⟩
  · obtain ⟨b10, eb10⟩ : ∃ q : Nat, q = 98 + 9 * i10x := ⟨_, rfl⟩
    rw [← eb10]
    have hb10 : ZC k b10 := ⟨_, hk10, eb10⟩
    have hb10n := hb10.n
    refine v_astore (lv' := [(0, .ref (ad 49)), (1, .ref (ad c)), (2, .int i), (3, .int x), (4, .int x3), (5, .int x5), (6, .ref (ad b10))]) C [1, 2, 3, 4, 5, 6, 0] dX2_changed_25 (by decide) rfl ?_
    refine v_aload_n C 1 dX2_changed_27 rfl rfl ?_
    refine v_getr C c dX2_changed_28 fX2_29 (by omega) hE1 rfl rfl ?_
    refine v_iload_n C 2 dX2_changed_31 rfl rfl ?_
    obtain ⟨f27, hE27, hb27⟩ := hJ.2.2.getA (b := (c + 1)) (by omega) (hc.t1 k)
    refine v_ald (v := f27 (i.toInt).toNat) C (c + 1) dX2_changed_32 (by omega) hE27 (ti_in (rfl : Int32.toInt i = _) (by omega) (by omega)) (by rw [ti_cl (rfl : Int32.toInt i = _)]) ?_
    refine v_top (fun x28 _ => ?_)
    have q29v : Int32.toInt x28 = x28.toInt := (rfl : Int32.toInt x28 = _)
    rcases (show x28.toInt = 1 ∨ x28.toInt = 2 ∨ x28.toInt = 3 ∨ x28.toInt = 4 ∨ x28.toInt = 5 ∨ x28.toInt = 6 ∨ x28.toInt = 7 ∨ (x28.toInt < 1 ∨ 7 < x28.toInt) by omega) with q29 | q29 | q29 | q29 | q29 | q29 | q29 | q29
    · refine v_tableIn (off := 43) C 76 dX2_changed_33 (by omega) (by omega) (by rw [q29v, q29]; rfl) (by decide) ?_
      refine v_aload C 6 dX2_changed_76 rfl ?_
      refine v_ifnonnull C 86 dX2_changed_78 (by decide) ?_
      refine v_iload_n C 3 dX2_changed_86 rfl rfl ?_
      refine v_aload C 6 dX2_changed_87 rfl ?_
      refine v_iload_n C 3 dX2_changed_89 rfl rfl ?_
      obtain ⟨i32, hE32, hb32⟩ := hJ.2.2.getO (b := b10) (by omega) hb10.t0
      refine v_cVp C dX2_changed_90 lX2_60 mX6_offsetAt b10 (by omega) hE32 (by decide) rfl (t_X6_offsetAt l G ad hJ b10 hb10 x) ⟨by decide, by decide⟩ rfl (Nat.le_of_ble_eq_true rfl) ⟨Nat.zero_le _, Nat.zero_le _⟩ (fun r30 hp31 => ?_)
      refine v_iadd C dX2_changed_93 ?_
      refine v_top (fun x33 _ => ?_)
      exact v_ret C dX2_changed_94 rfl rfl ⟨(ti_any x33), rfl⟩
    · refine v_tableIn (off := 62) C 95 dX2_changed_33 (by omega) (by omega) (by rw [q29v, q29]; rfl) (by decide) ?_
      refine v_iload_n C 3 dX2_changed_95 rfl rfl ?_
      refine v_sipush (v := 1440) C dX2_changed_96 (by decide) ?_
      refine v_idiv C dX2_changed_99 (by decide) ?_
      refine v_top (fun x34 ex34 => ?_)
      have hx34 : (-1491308 : Int) ≤ x34.toInt ∧ x34.toInt ≤ 1491308 := by rw [ex34]; exact ti_tdb (show (1440 : Int32).toInt = 1440 by decide) (by decide)
      exact v_ret C dX2_changed_100 rfl rfl ⟨(ti_any x34), rfl⟩
    · refine v_tableIn (off := 68) C 101 dX2_changed_33 (by omega) (by omega) (by rw [q29v, q29]; rfl) (by decide) ?_
      refine v_iload_n C 3 dX2_changed_101 rfl rfl ?_
      refine v_sipush (v := 1440) C dX2_changed_102 (by decide) ?_
      refine v_imul C dX2_changed_105 ?_
      refine v_top (fun x35 _ => ?_)
      refine v_iload C 4 dX2_changed_106 rfl ?_
      refine v_iadd C dX2_changed_108 ?_
      refine v_top (fun x36 _ => ?_)
      exact v_ret C dX2_changed_109 rfl rfl ⟨(ti_any x36), rfl⟩
    · refine v_tableIn (off := 77) C 110 dX2_changed_33 (by omega) (by omega) (by rw [q29v, q29]; rfl) (by decide) ?_
      refine v_aload C 6 dX2_changed_110 rfl ?_
      refine v_ifnonnull C 120 dX2_changed_112 (by decide) ?_
      refine v_aload C 6 dX2_changed_120 rfl ?_
      refine v_iload_n C 3 dX2_changed_122 rfl rfl ?_
      refine v_iload C 5 dX2_changed_123 rfl ?_
      refine v_iconst (v := 1) C dX2_changed_125 (by decide) ?_
      refine b_icmp_ne C 133 dX2_changed_126 (by decide) (rfl : Int32.toInt x5 = _) (show (1 : Int32).toInt = 1 by decide) (fun c37 => ?_) (fun c37 => ?_)
      · refine v_iconst (v := 0) C dX2_changed_133 (by decide) ?_
        obtain ⟨i40, hE40, hb40⟩ := hJ.2.2.getO (b := b10) (by omega) hb10.t0
        refine v_cVp C dX2_changed_134 lX2_66 mX6_turned b10 (by omega) hE40 (by decide) rfl (t_X6_turned l G ad hJ b10 hb10 x 0) ⟨by decide, by decide⟩ rfl (Nat.le_of_ble_eq_true rfl) ⟨Nat.zero_le _, Nat.zero_le _⟩ (fun r38 hp39 => ?_)
        exact v_ret C dX2_changed_137 rfl rfl ⟨(ti_any r38), rfl⟩
      · refine v_iconst (v := 1) C dX2_changed_129 (by decide) ?_
        refine v_goto C 134 dX2_changed_130 (by decide) ?_
        obtain ⟨i43, hE43, hb43⟩ := hJ.2.2.getO (b := b10) (by omega) hb10.t0
        refine v_cVp C dX2_changed_134 lX2_66 mX6_turned b10 (by omega) hE43 (by decide) rfl (t_X6_turned l G ad hJ b10 hb10 x 1) ⟨by decide, by decide⟩ rfl (Nat.le_of_ble_eq_true rfl) ⟨Nat.zero_le _, Nat.zero_le _⟩ (fun r41 hp42 => ?_)
        exact v_ret C dX2_changed_137 rfl rfl ⟨(ti_any r41), rfl⟩
    · refine v_tableIn (off := 105) C 138 dX2_changed_33 (by omega) (by omega) (by rw [q29v, q29]; rfl) (by decide) ?_
      refine v_iload_n C 3 dX2_changed_138 rfl rfl ?_
      refine v_iload C 4 dX2_changed_139 rfl ?_
      refine v_iadd C dX2_changed_141 ?_
      refine v_top (fun x44 _ => ?_)
      exact v_ret C dX2_changed_142 rfl rfl ⟨(ti_any x44), rfl⟩
    · refine v_tableIn (off := 110) C 143 dX2_changed_33 (by omega) (by omega) (by rw [q29v, q29]; rfl) (by decide) ?_
      refine v_aload_n C 1 dX2_changed_143 rfl rfl ?_
      refine v_getr C c dX2_changed_144 fX2_41 (by omega) hE1 rfl rfl ?_
      refine v_iload_n C 2 dX2_changed_147 rfl rfl ?_
      obtain ⟨f45, hE45, hb45⟩ := hJ.2.2.getA (b := (c + 4)) (by omega) (hc.t4 k)
      refine v_ald (v := f45 (i.toInt).toNat) C (c + 4) dX2_changed_148 (by omega) hE45 (ti_in (rfl : Int32.toInt i = _) (by omega) (by omega)) (by rw [ti_cl (rfl : Int32.toInt i = _)]) ?_
      refine v_top (fun x46 _ => ?_)
      refine v_iconst (v := 2) C dX2_changed_149 (by decide) ?_
      refine b_icmp_ne C 160 dX2_changed_150 (by decide) (rfl : Int32.toInt x46 = _) (show (2 : Int32).toInt = 2 by decide) (fun c47 => ?_) (fun c47 => ?_)
      · refine v_iload_n C 3 dX2_changed_160 rfl rfl ?_
        refine v_iload C 4 dX2_changed_161 rfl ?_
        refine v_sipush (v := 1440) C dX2_changed_163 (by decide) ?_
        refine v_imul C dX2_changed_166 ?_
        refine v_top (fun x48 _ => ?_)
        refine v_iadd C dX2_changed_167 ?_
        refine v_top (fun x49 _ => ?_)
        exact v_ret C dX2_changed_168 rfl rfl ⟨(ti_any x49), rfl⟩
      · refine v_iload_n C 3 dX2_changed_153 rfl rfl ?_
        refine v_iload C 4 dX2_changed_154 rfl ?_
        refine v_iadd C dX2_changed_156 ?_
        refine v_top (fun x50 _ => ?_)
        refine v_goto C 168 dX2_changed_157 (by decide) ?_
        exact v_ret C dX2_changed_168 rfl rfl ⟨(ti_any x50), rfl⟩
    · refine v_tableIn (off := 136) C 169 dX2_changed_33 (by omega) (by omega) (by rw [q29v, q29]; rfl) (by decide) ?_
      refine v_aload_n C 0 dX2_changed_169 rfl rfl ?_
      refine v_getr C 49 dX2_changed_170 fX2_15 (by omega) hE6 rfl rfl ?_
      refine v_iload_n C 3 dX2_changed_173 rfl rfl ?_
      refine v_iload C 4 dX2_changed_174 rfl ?_
      refine v_iload C 5 dX2_changed_176 rfl ?_
      obtain ⟨ic53, md53, ms53, ld53, ys53, hC153, hC253, hC353, hC453, hC553, hCP53, hCF53⟩ := hJ.cal
      have hCl53 := cal_b hCP53
      have hCy53 := cal_y hCP53
      refine v_cVp C dX2_changed_178 lX2_70 mX0_monthsOn 1 (by omega) hC153 (by decide) rfl (t_X0_monthsOn l G ad hJ x x3 x5) ⟨by decide, by decide⟩ rfl (Nat.le_of_ble_eq_true rfl) ⟨Nat.zero_le _, Nat.zero_le _⟩ (fun r51 hp52 => ?_)
      exact v_ret C dX2_changed_181 rfl rfl ⟨(ti_any r51), rfl⟩
    · refine v_tableOut C 182 dX2_changed_33 (by omega) (by decide) ?_
      refine v_ldc C dX2_changed_182 kX2_32 ?_
      exact v_ret C dX2_changed_184 rfl rfl ⟨(ti_any (-2000000000)), rfl⟩

set_option maxRecDepth 20000 in
theorem t_X2_answerOf (l : Launch) (G : Gl) (ad : Nat → Nat) {k : Nat} {E0 E : Nat → va_E} (hJ : J8 G ad k E0 E) (c : Nat) (hc : PC c) (x : Int32) : CtI l G yX2_answerOf cX2_answerOf 8 .int 4 97 (98 + 9 * k) ad E [.ref (ad 49), .ref (ad c), .int x] (fun r E' => ((-2147483648 : Int) ≤ r.toInt ∧ r.toInt ≤ 2147483647) ∧ J8 G ad k E0 E') := by
  refine CtI.of (by decide) (Nat.le_of_ble_eq_true rfl) (fun X A C => ?_)
  refine v_sub (lv' := [(0, .ref (ad 49)), (1, .ref (ad c)), (2, .int x)]) [0, 1, 2] rfl ?_
  have hk5 := hJ.1
  have hcn := hc.n
  refine v_iconst (v := 0) C dX2_answerOf_0 (by decide) ?_
  refine v_istore_n (lv' := [(0, .ref (ad 49)), (1, .ref (ad c)), (2, .int x), (3, .int 0)]) C [1, 2, 3, 0] dX2_answerOf_1 rfl (by decide) rfl ?_
  refine v_iconst (v := 0) C dX2_answerOf_2 (by decide) ?_
  refine v_istore (lv' := [(0, .ref (ad 49)), (1, .ref (ad c)), (2, .int x), (3, .int 0), (4, .int 0)]) C [1, 2, 3, 4, 0] dX2_answerOf_3 (by decide) rfl ?_
  have LP1 : ∀ (t : Nat) (E5 : Nat → va_E) (y2 : Int32) (y3 : Int32) (y4 : Int32), J8 G ad k E0 E5 → ((0 : Int) ≤ y3.toInt ∧ y3.toInt ≤ 8) → ((0 : Int) ≤ y4.toInt ∧ y4.toInt ≤ 10) → 11 - y4.toInt < (t : Int) → V X G A 8 (QI X G A (98 + 9 * k) ad (fun r E' => ((-2147483648 : Int) ≤ r.toInt ∧ r.toInt ≤ 2147483647) ∧ J8 G ad k E0 E')) (98 + 9 * k) ad 0 0 E5 5 [(0, .ref (ad 49)), (1, .ref (ad c)), (2, .int y2), (3, .int y3), (4, .int y4)] [] := by
    intro t9
    induction t9 with
    | zero => intro E5 y2 y3 y4 hJ6 hy3 hy4 hm8; exfalso; omega
    | succ t9 ih7 =>
      intro E5 y2 y3 y4 hJ6 hy3 hy4 hm8
      refine v_iload C 4 dX2_answerOf_5 rfl ?_
      refine v_aload_n C 1 dX2_answerOf_7 rfl rfl ?_
      obtain ⟨i10, hE10, hb10⟩ := hJ6.2.2.getO (b := c) (by omega) (hc.t0 k)
      refine v_geti (v := i10 6) C c dX2_answerOf_8 fX2_23 (by omega) hE10 rfl rfl ?_
      have hi10_6 : (0 : Int) ≤ (i10 6).toInt ∧ (i10 6).toInt ≤ 10 := hb10 6
      refine b_icmp_ge C 276 dX2_answerOf_11 (by decide) (rfl : Int32.toInt y4 = _) (rfl : Int32.toInt (i10 6) = _) (fun c11 => ?_) (fun c11 => ?_)
      · refine v_iload_n C 3 dX2_answerOf_276 rfl rfl ?_
        refine v_iconst (v := 1) C dX2_answerOf_277 (by decide) ?_
        refine b_icmp_ne C 290 dX2_answerOf_278 (by decide) (rfl : Int32.toInt y3 = _) (show (1 : Int32).toInt = 1 by decide) (fun c12 => ?_) (fun c12 => ?_)
        · refine v_ldc C dX2_answerOf_290 kX2_32 ?_
          exact v_ret C dX2_answerOf_292 rfl rfl ⟨(ti_any (-2000000000)), hJ6⟩
        · refine v_aload_n C 0 dX2_answerOf_281 rfl rfl ?_
          obtain ⟨i13, hE13, hb13⟩ := hJ6.2.2.getO (b := 49) (by omega) rfl
          refine v_getr C 49 dX2_answerOf_282 fX2_9 (by omega) hE13 rfl rfl ?_
          refine v_iconst (v := 0) C dX2_answerOf_285 (by decide) ?_
          obtain ⟨f14, hE14, hb14⟩ := hJ6.2.2.getA (b := 50) (by omega) rfl
          refine v_ald (v := f14 0) C 50 dX2_answerOf_286 (by omega) hE14 (ti_in (show (0 : Int32).toInt = 0 by decide) (by omega) (by omega)) (congrArg f14 (by decide)) ?_
          refine v_top (fun x15 _ => ?_)
          refine v_goto C 292 dX2_answerOf_287 (by decide) ?_
          exact v_ret C dX2_answerOf_292 rfl rfl ⟨(ti_any x15), hJ6⟩
      · refine v_aload_n C 1 dX2_answerOf_14 rfl rfl ?_
        refine v_getr C c dX2_answerOf_15 fX2_29 (by omega) hE10 rfl rfl ?_
        refine v_iload C 4 dX2_answerOf_18 rfl ?_
        obtain ⟨f16, hE16, hb16⟩ := hJ6.2.2.getA (b := (c + 1)) (by omega) (hc.t1 k)
        refine v_ald (v := f16 (y4.toInt).toNat) C (c + 1) dX2_answerOf_20 (by omega) hE16 (ti_in (rfl : Int32.toInt y4 = _) (by omega) (by omega)) (by rw [ti_cl (rfl : Int32.toInt y4 = _)]) ?_
        refine v_top (fun x17 _ => ?_)
        refine v_istore (lv' := [(0, .ref (ad 49)), (1, .ref (ad c)), (2, .int y2), (3, .int y3), (4, .int y4), (5, .int x17)]) C [1, 2, 3, 4, 5, 0] dX2_answerOf_21 (by decide) rfl ?_
        have JN18 : ∀ (E22 : Nat → va_E) (y19 : Int32), J8 G ad k E0 E22 → ((0 : Int) ≤ y19.toInt ∧ y19.toInt ≤ 2) → (y19.toInt = 0 → x17.toInt = 0) → (x17.toInt = 11 → y19.toInt = 2) → V X G A 8 (QI X G A (98 + 9 * k) ad (fun r E' => ((-2147483648 : Int) ≤ r.toInt ∧ r.toInt ≤ 2147483647) ∧ J8 G ad k E0 E')) (98 + 9 * k) ad 0 0 E22 58 [(0, .ref (ad 49)), (1, .ref (ad c)), (2, .int y2), (3, .int y3), (4, .int y4), (5, .int x17)] [.int y19] := by
          intro E22 y19 hJ23 hy19 hq20 hq21
          refine v_istore (lv' := [(0, .ref (ad 49)), (1, .ref (ad c)), (2, .int y2), (3, .int y3), (4, .int y4), (5, .int x17), (6, .int y19)]) C [1, 2, 3, 4, 5, 6, 0] dX2_answerOf_58 (by decide) rfl ?_
          have JN24 : ∀ (E27 : Nat → va_E) , J8 G ad k E0 E27 → (y3.toInt < 8 ∨ (x17.toInt ≠ 0 ∧ x17.toInt ≠ 10)) → (y19.toInt ≤ y3.toInt) → V X G A 8 (QI X G A (98 + 9 * k) ad (fun r E' => ((-2147483648 : Int) ≤ r.toInt ∧ r.toInt ≤ 2147483647) ∧ J8 G ad k E0 E')) (98 + 9 * k) ad 0 0 E27 87 [(0, .ref (ad 49)), (1, .ref (ad c)), (2, .int y2), (3, .int y3), (4, .int y4), (5, .int x17), (6, .int y19)] [] := by
            intro E27  hJ28 hq25 hq26
            refine v_iload C 5 dX2_answerOf_87 rfl ?_
            refine b_if_ne C 105 dX2_answerOf_89 (by decide) (rfl : Int32.toInt x17 = _) (fun c29 => ?_) (fun c29 => ?_)
            · refine v_iload C 5 dX2_answerOf_105 rfl ?_
              refine v_bipush (v := 10) C dX2_answerOf_107 (by decide) ?_
              refine b_icmp_ne C 132 dX2_answerOf_109 (by decide) (rfl : Int32.toInt x17 = _) (show (10 : Int32).toInt = 10 by decide) (fun c30 => ?_) (fun c30 => ?_)
              · refine v_iload C 5 dX2_answerOf_132 rfl ?_
                refine v_bipush (v := 11) C dX2_answerOf_134 (by decide) ?_
                refine b_icmp_ne C 178 dX2_answerOf_136 (by decide) (rfl : Int32.toInt x17 = _) (show (11 : Int32).toInt = 11 by decide) (fun c31 => ?_) (fun c31 => ?_)
                · have JN32 : ∀ (E34 : Nat → va_E) (y33 : Int32), J8 G ad k E0 E34 → V X G A 8 (QI X G A (98 + 9 * k) ad (fun r E' => ((-2147483648 : Int) ≤ r.toInt ∧ r.toInt ≤ 2147483647) ∧ J8 G ad k E0 E')) (98 + 9 * k) ad 0 0 E34 225 [(0, .ref (ad 49)), (1, .ref (ad c)), (2, .int y2), (3, .int y3), (4, .int y4), (5, .int x17), (6, .int y19)] [.int y33] := by
                    intro E34 y33 hJ35
                    refine v_istore (lv' := [(0, .ref (ad 49)), (1, .ref (ad c)), (2, .int y2), (3, .int y3), (4, .int y4), (5, .int x17), (6, .int y19), (7, .int y33)]) C [1, 2, 3, 4, 5, 6, 7, 0] dX2_answerOf_225 (by decide) rfl ?_
                    refine v_aload_n C 0 dX2_answerOf_227 rfl rfl ?_
                    refine v_aload_n C 1 dX2_answerOf_228 rfl rfl ?_
                    obtain ⟨i36, hE36, hb36⟩ := hJ35.2.2.getO (b := c) (by omega) (hc.t0 k)
                    refine v_getr C c dX2_answerOf_229 fX2_41 (by omega) hE36 rfl rfl ?_
                    refine v_iload C 4 dX2_answerOf_232 rfl ?_
                    obtain ⟨f37, hE37, hb37⟩ := hJ35.2.2.getA (b := (c + 4)) (by omega) (hc.t4 k)
                    refine v_ald (v := f37 (y4.toInt).toNat) C (c + 4) dX2_answerOf_234 (by omega) hE37 (ti_in (rfl : Int32.toInt y4 = _) (by omega) (by omega)) (by rw [ti_cl (rfl : Int32.toInt y4 = _)]) ?_
                    refine v_top (fun x38 _ => ?_)
                    refine v_iload C 7 dX2_answerOf_235 rfl ?_
                    obtain ⟨i41, hE41, hb41⟩ := hJ35.2.2.getO (b := 49) (by omega) rfl
                    refine v_cVp C dX2_answerOf_237 lX2_44 mX2_isWithin 49 (by omega) hE41 (by decide) rfl (t_X2_isWithin l G ad hJ35 x38 y33) ⟨by decide, by decide⟩ rfl (Nat.le_of_ble_eq_true rfl) ⟨Nat.zero_le _, Nat.zero_le _⟩ (fun r39 hp40 => ?_)
                    rcases hp40 with rfl | rfl
                    · refine b_if_ne C 246 dX2_answerOf_240 (by decide) (show (0 : Int32).toInt = 0 by decide) (fun c42 => absurd c42 (by decide)) (fun c42 => ?_)
                      refine v_ldc C dX2_answerOf_243 kX2_32 ?_
                      exact v_ret C dX2_answerOf_245 rfl rfl ⟨(ti_any (-2000000000)), hJ35⟩
                    · refine b_if_ne C 246 dX2_answerOf_240 (by decide) (show (1 : Int32).toInt = 1 by decide) (fun c43 => ?_) (fun c43 => absurd c43 (by decide))
                      refine v_iload C 6 dX2_answerOf_246 rfl ?_
                      refine v_iconst (v := 2) C dX2_answerOf_248 (by decide) ?_
                      refine b_icmp_ne C 258 dX2_answerOf_249 (by decide) (rfl : Int32.toInt y19 = _) (show (2 : Int32).toInt = 2 by decide) (fun c44 => ?_) (fun c44 => ?_)
                      · refine v_iload_n C 3 dX2_answerOf_258 rfl rfl ?_
                        refine v_istore_n (lv' := [(0, .ref (ad 49)), (1, .ref (ad c)), (2, .int y2), (3, .int y3), (4, .int y4), (5, .int x17), (6, .int y19), (7, .int y33)]) C [1, 2, 3, 0, 4, 5, 6, 7] dX2_answerOf_259 rfl (by decide) rfl ?_
                        refine v_aload_n C 0 dX2_answerOf_260 rfl rfl ?_
                        refine v_getr C 49 dX2_answerOf_261 fX2_9 (by omega) hE41 rfl rfl ?_
                        refine v_iload_n C 3 dX2_answerOf_264 rfl rfl ?_
                        refine v_iconst (v := 1) C dX2_answerOf_265 (by decide) ?_
                        refine v_isub C dX2_answerOf_266 ?_
                        refine v_top (fun x45 ex45 => ?_)
                        have hx45 : x45.toInt = (y3.toInt - 1) := by rw [ex45]; exact ti_sub (rfl : Int32.toInt y3 = _) (show (1 : Int32).toInt = 1 by decide) (by omega) (by omega)
                        refine v_iload C 7 dX2_answerOf_267 rfl ?_
                        obtain ⟨f46, hE46, hb46⟩ := hJ35.2.2.getA (b := 50) (by omega) rfl
                        refine v_ast C 50 dX2_answerOf_269 (by omega) hE46 (ti_in hx45 (by omega) (by omega)) (fun E47 hE47_50 oE47 => ?_)
                        rw [ti_cl hx45] at hE47_50
                        have hE47_c := (oE47 c (by omega)).trans hE36
                        have hE47_c4 := (oE47 (c + 4) (by omega)).trans hE37
                        have hE47_49 := (oE47 49 (by decide)).trans hE41
                        have hJ48 := hJ35.with (hJ35.2.2.setA rfl (by unfold P8; omega) hb46 (ti_any y33) hE47_50 oE47)
                        obtain ⟨x49, ex49⟩ : ∃ y : Int32, y = y4 + 1 := ⟨_, rfl⟩
                        have hx49 : x49.toInt = (y4.toInt + 1) := by rw [ex49]; exact ti_add (rfl : Int32.toInt y4 = _) (show (1 : Int32).toInt = 1 by decide) (by omega) (by omega)
                        refine v_iinc (v := x49) (lv' := [(0, .ref (ad 49)), (1, .ref (ad c)), (2, .int y2), (3, .int y3), (4, .int x49), (5, .int x17), (6, .int y19), (7, .int y33)]) C 4 [1, 2, 3, 4, 0, 5, 6, 7] dX2_answerOf_270 rfl (ex49.symm) (by decide) rfl ?_
                        refine v_goto C 5 dX2_answerOf_273 (by decide) ?_
                        refine v_sub (lv' := [(0, .ref (ad 49)), (1, .ref (ad c)), (2, .int y2), (3, .int y3), (4, .int x49)]) [0, 1, 2, 3, 4] rfl ?_
                        exact ih7 _ y2 y3 x49 hJ48 (by have := hx49; omega) (by have := hx49; omega) (by have := hx49; omega)
                      · refine v_iload_n C 3 dX2_answerOf_252 rfl rfl ?_
                        refine v_iconst (v := 1) C dX2_answerOf_253 (by decide) ?_
                        refine v_isub C dX2_answerOf_254 ?_
                        refine v_top (fun x50 ex50 => ?_)
                        have hx50 : x50.toInt = (y3.toInt - 1) := by rw [ex50]; exact ti_sub (rfl : Int32.toInt y3 = _) (show (1 : Int32).toInt = 1 by decide) (by omega) (by omega)
                        refine v_goto C 259 dX2_answerOf_255 (by decide) ?_
                        refine v_istore_n (lv' := [(0, .ref (ad 49)), (1, .ref (ad c)), (2, .int y2), (3, .int x50), (4, .int y4), (5, .int x17), (6, .int y19), (7, .int y33)]) C [1, 2, 3, 0, 4, 5, 6, 7] dX2_answerOf_259 rfl (by decide) rfl ?_
                        refine v_aload_n C 0 dX2_answerOf_260 rfl rfl ?_
                        refine v_getr C 49 dX2_answerOf_261 fX2_9 (by omega) hE41 rfl rfl ?_
                        refine v_iload_n C 3 dX2_answerOf_264 rfl rfl ?_
                        refine v_iconst (v := 1) C dX2_answerOf_265 (by decide) ?_
                        refine v_isub C dX2_answerOf_266 ?_
                        refine v_top (fun x51 ex51 => ?_)
                        have hx51 : x51.toInt = ((y3.toInt - 1) - 1) := by rw [ex51]; exact ti_sub hx50 (show (1 : Int32).toInt = 1 by decide) (by omega) (by omega)
                        refine v_iload C 7 dX2_answerOf_267 rfl ?_
                        obtain ⟨f52, hE52, hb52⟩ := hJ35.2.2.getA (b := 50) (by omega) rfl
                        refine v_ast C 50 dX2_answerOf_269 (by omega) hE52 (ti_in hx51 (by omega) (by omega)) (fun E53 hE53_50 oE53 => ?_)
                        rw [ti_cl hx51] at hE53_50
                        have hE53_c := (oE53 c (by omega)).trans hE36
                        have hE53_c4 := (oE53 (c + 4) (by omega)).trans hE37
                        have hE53_49 := (oE53 49 (by decide)).trans hE41
                        have hJ54 := hJ35.with (hJ35.2.2.setA rfl (by unfold P8; omega) hb52 (ti_any y33) hE53_50 oE53)
                        obtain ⟨x55, ex55⟩ : ∃ y : Int32, y = y4 + 1 := ⟨_, rfl⟩
                        have hx55 : x55.toInt = (y4.toInt + 1) := by rw [ex55]; exact ti_add (rfl : Int32.toInt y4 = _) (show (1 : Int32).toInt = 1 by decide) (by omega) (by omega)
                        refine v_iinc (v := x55) (lv' := [(0, .ref (ad 49)), (1, .ref (ad c)), (2, .int y2), (3, .int x50), (4, .int x55), (5, .int x17), (6, .int y19), (7, .int y33)]) C 4 [1, 2, 3, 4, 0, 5, 6, 7] dX2_answerOf_270 rfl (ex55.symm) (by decide) rfl ?_
                        refine v_goto C 5 dX2_answerOf_273 (by decide) ?_
                        refine v_sub (lv' := [(0, .ref (ad 49)), (1, .ref (ad c)), (2, .int y2), (3, .int x50), (4, .int x55)]) [0, 1, 2, 3, 4] rfl ?_
                        exact ih7 _ y2 x50 x55 hJ54 (by have := hx50; have := hx55; omega) (by have := hx50; have := hx55; omega) (by have := hx50; have := hx55; omega)
                  refine v_iload C 6 dX2_answerOf_178 rfl ?_
                  refine v_iconst (v := 2) C dX2_answerOf_180 (by decide) ?_
                  refine b_icmp_ne C 210 dX2_answerOf_181 (by decide) (rfl : Int32.toInt y19 = _) (show (2 : Int32).toInt = 2 by decide) (fun c56 => ?_) (fun c56 => ?_)
                  · refine v_aload_n C 0 dX2_answerOf_210 rfl rfl ?_
                    refine v_aload_n C 1 dX2_answerOf_211 rfl rfl ?_
                    refine v_iload C 4 dX2_answerOf_212 rfl ?_
                    refine v_aload_n C 0 dX2_answerOf_214 rfl rfl ?_
                    obtain ⟨i57, hE57, hb57⟩ := hJ28.2.2.getO (b := 49) (by omega) rfl
                    refine v_getr C 49 dX2_answerOf_215 fX2_9 (by omega) hE57 rfl rfl ?_
                    refine v_iload_n C 3 dX2_answerOf_218 rfl rfl ?_
                    refine v_iconst (v := 1) C dX2_answerOf_219 (by decide) ?_
                    refine v_isub C dX2_answerOf_220 ?_
                    refine v_top (fun x58 ex58 => ?_)
                    have hx58 : x58.toInt = (y3.toInt - 1) := by rw [ex58]; exact ti_sub (rfl : Int32.toInt y3 = _) (show (1 : Int32).toInt = 1 by decide) (by omega) (by omega)
                    obtain ⟨f59, hE59, hb59⟩ := hJ28.2.2.getA (b := 50) (by omega) rfl
                    refine v_ald (v := f59 ((y3.toInt - 1)).toNat) C 50 dX2_answerOf_221 (by omega) hE59 (ti_in hx58 (by omega) (by omega)) (by rw [ti_cl hx58]) ?_
                    refine v_top (fun x60 _ => ?_)
                    refine v_cVp C dX2_answerOf_222 lX2_37 mX2_changed 49 (by omega) hE57 (by decide) rfl (t_X2_changed l G ad hJ28 c hc y4 (show (0 : Int) ≤ Int32.toInt y4 ∧ Int32.toInt y4 ≤ 9 by omega) x60) ⟨by decide, by decide⟩ rfl (Nat.le_of_ble_eq_true rfl) ⟨Nat.zero_le _, Nat.zero_le _⟩ (fun r61 hp62 => ?_)
                    exact JN32 _ r61 hJ28 
                  · refine v_aload_n C 0 dX2_answerOf_184 rfl rfl ?_
                    refine v_aload_n C 1 dX2_answerOf_185 rfl rfl ?_
                    refine v_iload C 4 dX2_answerOf_186 rfl ?_
                    refine v_aload_n C 0 dX2_answerOf_188 rfl rfl ?_
                    obtain ⟨i63, hE63, hb63⟩ := hJ28.2.2.getO (b := 49) (by omega) rfl
                    refine v_getr C 49 dX2_answerOf_189 fX2_9 (by omega) hE63 rfl rfl ?_
                    refine v_iload_n C 3 dX2_answerOf_192 rfl rfl ?_
                    refine v_iconst (v := 2) C dX2_answerOf_193 (by decide) ?_
                    refine v_isub C dX2_answerOf_194 ?_
                    refine v_top (fun x64 ex64 => ?_)
                    have hx64 : x64.toInt = (y3.toInt - 2) := by rw [ex64]; exact ti_sub (rfl : Int32.toInt y3 = _) (show (2 : Int32).toInt = 2 by decide) (by omega) (by omega)
                    obtain ⟨f65, hE65, hb65⟩ := hJ28.2.2.getA (b := 50) (by omega) rfl
                    refine v_ald (v := f65 ((y3.toInt - 2)).toNat) C 50 dX2_answerOf_195 (by omega) hE65 (ti_in hx64 (by omega) (by omega)) (by rw [ti_cl hx64]) ?_
                    refine v_top (fun x66 _ => ?_)
                    refine v_aload_n C 0 dX2_answerOf_196 rfl rfl ?_
                    refine v_getr C 49 dX2_answerOf_197 fX2_9 (by omega) hE63 rfl rfl ?_
                    refine v_iload_n C 3 dX2_answerOf_200 rfl rfl ?_
                    refine v_iconst (v := 1) C dX2_answerOf_201 (by decide) ?_
                    refine v_isub C dX2_answerOf_202 ?_
                    refine v_top (fun x67 ex67 => ?_)
                    have hx67 : x67.toInt = (y3.toInt - 1) := by rw [ex67]; exact ti_sub (rfl : Int32.toInt y3 = _) (show (1 : Int32).toInt = 1 by decide) (by omega) (by omega)
                    refine v_ald (v := f65 ((y3.toInt - 1)).toNat) C 50 dX2_answerOf_203 (by omega) hE65 (ti_in hx67 (by omega) (by omega)) (by rw [ti_cl hx67]) ?_
                    refine v_top (fun x68 _ => ?_)
                    refine v_cVp C dX2_answerOf_204 lX2_33 mX2_joined 49 (by omega) hE63 (by decide) rfl (t_X2_joined l G ad hJ28 c hc y4 (show (0 : Int) ≤ Int32.toInt y4 ∧ Int32.toInt y4 ≤ 9 by omega) x66 x68) ⟨by decide, by decide⟩ rfl (Nat.le_of_ble_eq_true rfl) ⟨Nat.zero_le _, Nat.zero_le _⟩ (fun r69 hp70 => ?_)
                    refine v_goto C 225 dX2_answerOf_207 (by decide) ?_
                    exact JN32 _ r69 hJ28 
                · refine v_aload_n C 0 dX2_answerOf_139 rfl rfl ?_
                  obtain ⟨i71, hE71, hb71⟩ := hJ28.2.2.getO (b := 49) (by omega) rfl
                  refine v_getr C 49 dX2_answerOf_140 fX2_9 (by omega) hE71 rfl rfl ?_
                  refine v_iload_n C 3 dX2_answerOf_143 rfl rfl ?_
                  refine v_iconst (v := 1) C dX2_answerOf_144 (by decide) ?_
                  refine v_isub C dX2_answerOf_145 ?_
                  refine v_top (fun x72 ex72 => ?_)
                  have hx72 : x72.toInt = (y3.toInt - 1) := by rw [ex72]; exact ti_sub (rfl : Int32.toInt y3 = _) (show (1 : Int32).toInt = 1 by decide) (by omega) (by omega)
                  obtain ⟨f73, hE73, hb73⟩ := hJ28.2.2.getA (b := 50) (by omega) rfl
                  refine v_ald (v := f73 ((y3.toInt - 1)).toNat) C 50 dX2_answerOf_146 (by omega) hE73 (ti_in hx72 (by omega) (by omega)) (by rw [ti_cl hx72]) ?_
                  refine v_top (fun x74 _ => ?_)
                  refine v_istore (lv' := [(0, .ref (ad 49)), (1, .ref (ad c)), (2, .int y2), (3, .int y3), (4, .int y4), (5, .int x17), (6, .int y19), (7, .int x74)]) C [1, 2, 3, 4, 5, 6, 7, 0] dX2_answerOf_147 (by decide) rfl ?_
                  refine v_aload_n C 0 dX2_answerOf_149 rfl rfl ?_
                  refine v_getr C 49 dX2_answerOf_150 fX2_9 (by omega) hE71 rfl rfl ?_
                  refine v_iload_n C 3 dX2_answerOf_153 rfl rfl ?_
                  refine v_iconst (v := 1) C dX2_answerOf_154 (by decide) ?_
                  refine v_isub C dX2_answerOf_155 ?_
                  refine v_top (fun x75 ex75 => ?_)
                  have hx75 : x75.toInt = (y3.toInt - 1) := by rw [ex75]; exact ti_sub (rfl : Int32.toInt y3 = _) (show (1 : Int32).toInt = 1 by decide) (by omega) (by omega)
                  refine v_aload_n C 0 dX2_answerOf_156 rfl rfl ?_
                  refine v_getr C 49 dX2_answerOf_157 fX2_9 (by omega) hE71 rfl rfl ?_
                  refine v_iload_n C 3 dX2_answerOf_160 rfl rfl ?_
                  refine v_iconst (v := 2) C dX2_answerOf_161 (by decide) ?_
                  refine v_isub C dX2_answerOf_162 ?_
                  refine v_top (fun x76 ex76 => ?_)
                  have hx76 : x76.toInt = (y3.toInt - 2) := by rw [ex76]; exact ti_sub (rfl : Int32.toInt y3 = _) (show (2 : Int32).toInt = 2 by decide) (by omega) (by omega)
                  refine v_ald (v := f73 ((y3.toInt - 2)).toNat) C 50 dX2_answerOf_163 (by omega) hE73 (ti_in hx76 (by omega) (by omega)) (by rw [ti_cl hx76]) ?_
                  refine v_top (fun x77 _ => ?_)
                  refine v_ast C 50 dX2_answerOf_164 (by omega) hE73 (ti_in hx75 (by omega) (by omega)) (fun E78 hE78_50 oE78 => ?_)
                  rw [ti_cl hx75] at hE78_50
                  have hE78_49 := (oE78 49 (by decide)).trans hE71
                  have hJ79 := hJ28.with (hJ28.2.2.setA rfl (by unfold P8; omega) hb73 (ti_any x77) hE78_50 oE78)
                  refine v_aload_n C 0 dX2_answerOf_165 rfl rfl ?_
                  refine v_getr C 49 dX2_answerOf_166 fX2_9 (by omega) hE78_49 rfl rfl ?_
                  refine v_iload_n C 3 dX2_answerOf_169 rfl rfl ?_
                  refine v_iconst (v := 2) C dX2_answerOf_170 (by decide) ?_
                  refine v_isub C dX2_answerOf_171 ?_
                  refine v_top (fun x80 ex80 => ?_)
                  have hx80 : x80.toInt = (y3.toInt - 2) := by rw [ex80]; exact ti_sub (rfl : Int32.toInt y3 = _) (show (2 : Int32).toInt = 2 by decide) (by omega) (by omega)
                  refine v_iload C 7 dX2_answerOf_172 rfl ?_
                  obtain ⟨f81, hE81, hb81⟩ := hJ79.2.2.getA (b := 50) (by omega) rfl
                  refine v_ast C 50 dX2_answerOf_174 (by omega) hE81 (ti_in hx80 (by omega) (by omega)) (fun E82 hE82_50 oE82 => ?_)
                  rw [ti_cl hx80] at hE82_50
                  have hE82_49 := (oE82 49 (by decide)).trans hE78_49
                  have hJ83 := hJ79.with (hJ79.2.2.setA rfl (by unfold P8; omega) hb81 (ti_any x74) hE82_50 oE82)
                  refine v_goto C 270 dX2_answerOf_175 (by decide) ?_
                  obtain ⟨x84, ex84⟩ : ∃ y : Int32, y = y4 + 1 := ⟨_, rfl⟩
                  have hx84 : x84.toInt = (y4.toInt + 1) := by rw [ex84]; exact ti_add (rfl : Int32.toInt y4 = _) (show (1 : Int32).toInt = 1 by decide) (by omega) (by omega)
                  refine v_iinc (v := x84) (lv' := [(0, .ref (ad 49)), (1, .ref (ad c)), (2, .int y2), (3, .int y3), (4, .int x84), (5, .int x17), (6, .int y19), (7, .int x74)]) C 4 [1, 2, 3, 4, 0, 5, 6, 7] dX2_answerOf_270 rfl (ex84.symm) (by decide) rfl ?_
                  refine v_goto C 5 dX2_answerOf_273 (by decide) ?_
                  refine v_sub (lv' := [(0, .ref (ad 49)), (1, .ref (ad c)), (2, .int y2), (3, .int y3), (4, .int x84)]) [0, 1, 2, 3, 4] rfl ?_
                  exact ih7 _ y2 y3 x84 hJ83 (by have := hx84; omega) (by have := hx84; omega) (by have := hx84; omega)
              · refine v_aload_n C 0 dX2_answerOf_112 rfl rfl ?_
                obtain ⟨i85, hE85, hb85⟩ := hJ28.2.2.getO (b := 49) (by omega) rfl
                refine v_getr C 49 dX2_answerOf_113 fX2_9 (by omega) hE85 rfl rfl ?_
                refine v_iload_n C 3 dX2_answerOf_116 rfl rfl ?_
                refine v_aload_n C 0 dX2_answerOf_117 rfl rfl ?_
                refine v_getr C 49 dX2_answerOf_118 fX2_9 (by omega) hE85 rfl rfl ?_
                refine v_iload_n C 3 dX2_answerOf_121 rfl rfl ?_
                refine v_iconst (v := 1) C dX2_answerOf_122 (by decide) ?_
                refine v_isub C dX2_answerOf_123 ?_
                refine v_top (fun x86 ex86 => ?_)
                have hx86 : x86.toInt = (y3.toInt - 1) := by rw [ex86]; exact ti_sub (rfl : Int32.toInt y3 = _) (show (1 : Int32).toInt = 1 by decide) (by omega) (by omega)
                obtain ⟨f87, hE87, hb87⟩ := hJ28.2.2.getA (b := 50) (by omega) rfl
                refine v_ald (v := f87 ((y3.toInt - 1)).toNat) C 50 dX2_answerOf_124 (by omega) hE87 (ti_in hx86 (by omega) (by omega)) (by rw [ti_cl hx86]) ?_
                refine v_top (fun x88 _ => ?_)
                refine v_ast C 50 dX2_answerOf_125 (by omega) hE87 (ti_in (rfl : Int32.toInt y3 = _) (by omega) (by omega)) (fun E89 hE89_50 oE89 => ?_)
                rw [ti_cl (rfl : Int32.toInt y3 = _)] at hE89_50
                have hE89_49 := (oE89 49 (by decide)).trans hE85
                have hJ90 := hJ28.with (hJ28.2.2.setA rfl (by unfold P8; omega) hb87 (ti_any x88) hE89_50 oE89)
                obtain ⟨x91, ex91⟩ : ∃ y : Int32, y = y3 + 1 := ⟨_, rfl⟩
                have hx91 : x91.toInt = (y3.toInt + 1) := by rw [ex91]; exact ti_add (rfl : Int32.toInt y3 = _) (show (1 : Int32).toInt = 1 by decide) (by omega) (by omega)
                refine v_iinc (v := x91) (lv' := [(0, .ref (ad 49)), (1, .ref (ad c)), (2, .int y2), (3, .int x91), (4, .int y4), (5, .int x17), (6, .int y19)]) C 3 [1, 2, 3, 0, 4, 5, 6] dX2_answerOf_126 rfl (ex91.symm) (by decide) rfl ?_
                refine v_goto C 270 dX2_answerOf_129 (by decide) ?_
                obtain ⟨x92, ex92⟩ : ∃ y : Int32, y = y4 + 1 := ⟨_, rfl⟩
                have hx92 : x92.toInt = (y4.toInt + 1) := by rw [ex92]; exact ti_add (rfl : Int32.toInt y4 = _) (show (1 : Int32).toInt = 1 by decide) (by omega) (by omega)
                refine v_iinc (v := x92) (lv' := [(0, .ref (ad 49)), (1, .ref (ad c)), (2, .int y2), (3, .int x91), (4, .int x92), (5, .int x17), (6, .int y19)]) C 4 [1, 2, 3, 4, 0, 5, 6] dX2_answerOf_270 rfl (ex92.symm) (by decide) rfl ?_
                refine v_goto C 5 dX2_answerOf_273 (by decide) ?_
                refine v_sub (lv' := [(0, .ref (ad 49)), (1, .ref (ad c)), (2, .int y2), (3, .int x91), (4, .int x92)]) [0, 1, 2, 3, 4] rfl ?_
                exact ih7 _ y2 x91 x92 hJ90 (by have := hx91; have := hx92; omega) (by have := hx91; have := hx92; omega) (by have := hx91; have := hx92; omega)
            · refine v_aload_n C 0 dX2_answerOf_92 rfl rfl ?_
              obtain ⟨i93, hE93, hb93⟩ := hJ28.2.2.getO (b := 49) (by omega) rfl
              refine v_getr C 49 dX2_answerOf_93 fX2_9 (by omega) hE93 rfl rfl ?_
              refine v_iload_n C 3 dX2_answerOf_96 rfl rfl ?_
              refine v_iload_n C 2 dX2_answerOf_97 rfl rfl ?_
              obtain ⟨f94, hE94, hb94⟩ := hJ28.2.2.getA (b := 50) (by omega) rfl
              refine v_ast C 50 dX2_answerOf_98 (by omega) hE94 (ti_in (rfl : Int32.toInt y3 = _) (by omega) (by omega)) (fun E95 hE95_50 oE95 => ?_)
              rw [ti_cl (rfl : Int32.toInt y3 = _)] at hE95_50
              have hE95_49 := (oE95 49 (by decide)).trans hE93
              have hJ96 := hJ28.with (hJ28.2.2.setA rfl (by unfold P8; omega) hb94 (ti_any y2) hE95_50 oE95)
              obtain ⟨x97, ex97⟩ : ∃ y : Int32, y = y3 + 1 := ⟨_, rfl⟩
              have hx97 : x97.toInt = (y3.toInt + 1) := by rw [ex97]; exact ti_add (rfl : Int32.toInt y3 = _) (show (1 : Int32).toInt = 1 by decide) (by omega) (by omega)
              refine v_iinc (v := x97) (lv' := [(0, .ref (ad 49)), (1, .ref (ad c)), (2, .int y2), (3, .int x97), (4, .int y4), (5, .int x17), (6, .int y19)]) C 3 [1, 2, 3, 0, 4, 5, 6] dX2_answerOf_99 rfl (ex97.symm) (by decide) rfl ?_
              refine v_goto C 270 dX2_answerOf_102 (by decide) ?_
              obtain ⟨x98, ex98⟩ : ∃ y : Int32, y = y4 + 1 := ⟨_, rfl⟩
              have hx98 : x98.toInt = (y4.toInt + 1) := by rw [ex98]; exact ti_add (rfl : Int32.toInt y4 = _) (show (1 : Int32).toInt = 1 by decide) (by omega) (by omega)
              refine v_iinc (v := x98) (lv' := [(0, .ref (ad 49)), (1, .ref (ad c)), (2, .int y2), (3, .int x97), (4, .int x98), (5, .int x17), (6, .int y19)]) C 4 [1, 2, 3, 4, 0, 5, 6] dX2_answerOf_270 rfl (ex98.symm) (by decide) rfl ?_
              refine v_goto C 5 dX2_answerOf_273 (by decide) ?_
              refine v_sub (lv' := [(0, .ref (ad 49)), (1, .ref (ad c)), (2, .int y2), (3, .int x97), (4, .int x98)]) [0, 1, 2, 3, 4] rfl ?_
              exact ih7 _ y2 x97 x98 hJ96 (by have := hx97; have := hx98; omega) (by have := hx97; have := hx98; omega) (by have := hx97; have := hx98; omega)
          refine v_iload_n C 3 dX2_answerOf_60 rfl rfl ?_
          refine v_iload C 6 dX2_answerOf_61 rfl ?_
          refine b_icmp_lt C 84 dX2_answerOf_63 (by decide) (rfl : Int32.toInt y3 = _) (rfl : Int32.toInt y19 = _) (fun c99 => ?_) (fun c99 => ?_)
          · refine v_ldc C dX2_answerOf_84 kX2_32 ?_
            exact v_ret C dX2_answerOf_86 rfl rfl ⟨(ti_any (-2000000000)), hJ23⟩
          · refine v_iload_n C 3 dX2_answerOf_66 rfl rfl ?_
            refine v_bipush (v := 8) C dX2_answerOf_67 (by decide) ?_
            refine b_icmp_lt C 87 dX2_answerOf_69 (by decide) (rfl : Int32.toInt y3 = _) (show (8 : Int32).toInt = 8 by decide) (fun c100 => ?_) (fun c100 => ?_)
            · exact JN24 _ hJ23 (by omega) (by omega)
            · refine v_iload C 5 dX2_answerOf_72 rfl ?_
              refine b_if_eq C 84 dX2_answerOf_74 (by decide) (rfl : Int32.toInt x17 = _) (fun c101 => ?_) (fun c101 => ?_)
              · refine v_ldc C dX2_answerOf_84 kX2_32 ?_
                exact v_ret C dX2_answerOf_86 rfl rfl ⟨(ti_any (-2000000000)), hJ23⟩
              · refine v_iload C 5 dX2_answerOf_77 rfl ?_
                refine v_bipush (v := 10) C dX2_answerOf_79 (by decide) ?_
                refine b_icmp_ne C 87 dX2_answerOf_81 (by decide) (rfl : Int32.toInt x17 = _) (show (10 : Int32).toInt = 10 by decide) (fun c102 => ?_) (fun c102 => ?_)
                · exact JN24 _ hJ23 (by omega) (by omega)
                · refine v_ldc C dX2_answerOf_84 kX2_32 ?_
                  exact v_ret C dX2_answerOf_86 rfl rfl ⟨(ti_any (-2000000000)), hJ23⟩
        refine v_iload C 5 dX2_answerOf_23 rfl ?_
        refine b_if_ne C 32 dX2_answerOf_25 (by decide) (rfl : Int32.toInt x17 = _) (fun c103 => ?_) (fun c103 => ?_)
        · refine v_iload C 5 dX2_answerOf_32 rfl ?_
          refine v_bipush (v := 8) C dX2_answerOf_34 (by decide) ?_
          refine b_icmp_eq C 53 dX2_answerOf_36 (by decide) (rfl : Int32.toInt x17 = _) (show (8 : Int32).toInt = 8 by decide) (fun c104 => ?_) (fun c104 => ?_)
          · refine v_iconst (v := 2) C dX2_answerOf_53 (by decide) ?_
            refine v_goto C 58 dX2_answerOf_54 (by decide) ?_
            exact JN18 _ 2 hJ6 (by have := (show (2 : Int32).toInt = 2 by decide); omega) (by have := (show (2 : Int32).toInt = 2 by decide); omega) (by have := (show (2 : Int32).toInt = 2 by decide); omega)
          · refine v_iload C 5 dX2_answerOf_39 rfl ?_
            refine v_bipush (v := 9) C dX2_answerOf_41 (by decide) ?_
            refine b_icmp_eq C 53 dX2_answerOf_43 (by decide) (rfl : Int32.toInt x17 = _) (show (9 : Int32).toInt = 9 by decide) (fun c105 => ?_) (fun c105 => ?_)
            · refine v_iconst (v := 2) C dX2_answerOf_53 (by decide) ?_
              refine v_goto C 58 dX2_answerOf_54 (by decide) ?_
              exact JN18 _ 2 hJ6 (by have := (show (2 : Int32).toInt = 2 by decide); omega) (by have := (show (2 : Int32).toInt = 2 by decide); omega) (by have := (show (2 : Int32).toInt = 2 by decide); omega)
            · refine v_iload C 5 dX2_answerOf_46 rfl ?_
              refine v_bipush (v := 11) C dX2_answerOf_48 (by decide) ?_
              refine b_icmp_ne C 57 dX2_answerOf_50 (by decide) (rfl : Int32.toInt x17 = _) (show (11 : Int32).toInt = 11 by decide) (fun c106 => ?_) (fun c106 => ?_)
              · refine v_iconst (v := 1) C dX2_answerOf_57 (by decide) ?_
                exact JN18 _ 1 hJ6 (by have := (show (1 : Int32).toInt = 1 by decide); omega) (by have := (show (1 : Int32).toInt = 1 by decide); omega) (by have := (show (1 : Int32).toInt = 1 by decide); omega)
              · refine v_iconst (v := 2) C dX2_answerOf_53 (by decide) ?_
                refine v_goto C 58 dX2_answerOf_54 (by decide) ?_
                exact JN18 _ 2 hJ6 (by have := (show (2 : Int32).toInt = 2 by decide); omega) (by have := (show (2 : Int32).toInt = 2 by decide); omega) (by have := (show (2 : Int32).toInt = 2 by decide); omega)
        · refine v_iconst (v := 0) C dX2_answerOf_28 (by decide) ?_
          refine v_goto C 58 dX2_answerOf_29 (by decide) ?_
          exact JN18 _ 0 hJ6 (by have := (show (0 : Int32).toInt = 0 by decide); omega) (by have := (show (0 : Int32).toInt = 0 by decide); omega) (by have := (show (0 : Int32).toInt = 0 by decide); omega)
  exact LP1 100000 _ x 0 0 hJ (by have := (show (0 : Int32).toInt = 0 by decide); omega) (by have := (show (0 : Int32).toInt = 0 by decide); omega) (by have := (show (0 : Int32).toInt = 0 by decide); omega)

set_option maxRecDepth 20000 in
theorem t_X1_hear (l : Launch) (G : Gl) (ad : Nat → Nat) {k : Nat} {E0 E : Nat → va_E} (hJ : J8 G ad k E0 E) (x : Int32) (y : Int32) (z : Int32) : CtV l G yX1_hear cX1_hear 4 0 0 (98 + 9 * k) ad E [.ref (ad 48), .int x, .int y, .int z] (fun E' => J8 G ad k E0 E') := by
  refine CtV.of (by decide) (Nat.le_of_ble_eq_true rfl) (fun X A C => ?_)
  refine v_sub (lv' := [(0, .ref (ad 48)), (1, .int x), (2, .int y), (3, .int z)]) [0, 1, 2, 3] rfl ?_
  have hk5 := hJ.1
  refine v_aload_n C 0 dX1_hear_0 rfl rfl ?_
  refine v_iload_n C 1 dX1_hear_1 rfl rfl ?_
  obtain ⟨i1, hE1, hb1⟩ := hJ.2.2.getO (b := 48) (by omega) rfl
  refine v_puti C 48 dX1_hear_2 fX1_32 (by omega) hE1 rfl rfl rfl rfl (fun E2 hE2_48 oE2 => ?_)
  obtain ⟨hJ3, hb4⟩ := hJ.2.2.setO rfl (by unfold P8; omega) hb1 (k := 4) (ti_any x) hE2_48 oE2
  have hJ3 := hJ.with hJ3
  refine v_aload_n C 0 dX1_hear_5 rfl rfl ?_
  refine v_iload_n C 2 dX1_hear_6 rfl rfl ?_
  refine v_puti C 48 dX1_hear_7 fX1_36 (by omega) hE2_48 rfl rfl rfl rfl (fun E5 hE5_48 oE5 => ?_)
  obtain ⟨hJ6, hb7⟩ := hJ3.2.2.setO rfl (by unfold P8; omega) hb4 (k := 5) (ti_any y) hE5_48 oE5
  have hJ6 := hJ3.with hJ6
  refine v_aload_n C 0 dX1_hear_10 rfl rfl ?_
  refine v_iload_n C 3 dX1_hear_11 rfl rfl ?_
  refine v_puti C 48 dX1_hear_12 fX1_39 (by omega) hE5_48 rfl rfl rfl rfl (fun E8 hE8_48 oE8 => ?_)
  obtain ⟨hJ9, hb10⟩ := hJ6.2.2.setO rfl (by unfold P8; omega) hb7 (k := 6) (ti_any z) hE8_48 oE8
  have hJ9 := hJ6.with hJ9
  exact v_vret C dX1_hear_15 rfl hJ9

set_option maxRecDepth 20000 in
theorem t_X1_lawWall (l : Launch) (G : Gl) (ad : Nat → Nat) {k : Nat} {E0 E : Nat → va_E} (hJ : J8 G ad k E0 E) (x : Int32) : CtI l G yX1_lawWall cX1_lawWall 4 .int 2 44 (98 + 9 * k) ad E [.ref (ad 48), .int x] (fun r E' => ((-1 : Int) ≤ r.toInt ∧ r.toInt ≤ 69263999) ∧ E = E') := by
  refine CtI.of (by decide) (Nat.le_of_ble_eq_true rfl) (fun X A C => ?_)
  refine v_sub (lv' := [(0, .ref (ad 48)), (1, .int x)]) [0, 1] rfl ?_
  have hk5 := hJ.1
  refine v_aload_n C 0 dX1_lawWall_0 rfl rfl ?_
  obtain ⟨i1, hE1, hb1⟩ := hJ.2.2.getO (b := 48) (by omega) rfl
  refine v_getr C 48 dX1_lawWall_1 fX1_15 (by omega) hE1 rfl rfl ?_
  refine v_aload_n C 0 dX1_lawWall_4 rfl rfl ?_
  refine v_geti (v := i1 5) C 48 dX1_lawWall_5 fX1_36 (by omega) hE1 rfl rfl ?_
  obtain ⟨i4, hE4, hb4⟩ := hJ.2.2.getO (b := 6) (by omega) rfl
  refine v_cVr C dX1_lawWall_8 lX1_60 mX7_at 6 (by omega) hE4 (by decide) rfl (t_X7_at l G ad hJ (i1 5)) ⟨by decide, by decide⟩ rfl (Nat.le_of_ble_eq_true rfl) ⟨Nat.zero_le _, Nat.zero_le _⟩ (fun r2 hp3 => ?_)
  rcases hp3 with ⟨hno5, rfl⟩ | ⟨i5x, hi5, hk5, rfl⟩
  · refine v_astore_nN (lv' := [(0, .ref (ad 48)), (1, .int x), (2, .null)]) C [1, 2, 0] dX1_lawWall_11 rfl (by decide) rfl ?_
    refine v_aload_nN C 2 dX1_lawWall_12 rfl rfl ?_
    refine v_ifnonnullN C dX1_lawWall_13 ?_
    refine v_iconst (v := (-1)) C dX1_lawWall_16 (by decide) ?_
    refine v_goto C 27 dX1_lawWall_17 (by decide) ?_
    refine v_istore_n (lv' := [(0, .ref (ad 48)), (1, .int x), (2, .null), (3, .int (-1))]) C [1, 2, 3, 0] dX1_lawWall_27 rfl (by decide) rfl ?_
    refine v_aload_n C 0 dX1_lawWall_28 rfl rfl ?_
    refine v_getr C 48 dX1_lawWall_29 fX1_9 (by omega) hE1 rfl rfl ?_
    refine v_iload_n C 3 dX1_lawWall_32 rfl rfl ?_
    obtain ⟨ic8, md8, ms8, ld8, ys8, hC18, hC28, hC38, hC48, hC58, hCP8, hCF8⟩ := hJ.cal
    have hCl8 := cal_b hCP8
    have hCy8 := cal_y hCP8
    refine v_cVp C dX1_lawWall_33 lX1_71 mX0_hasWall 1 (by omega) hC18 (by decide) rfl (c_hasWall l G _ ad _ (by omega) hC18 hC28 hC38 hC48 hC58 hCP8 hCF8 (-1)) ⟨by decide, by decide⟩ rfl (Nat.le_of_ble_eq_true rfl) ⟨Nat.zero_le _, Nat.zero_le _⟩ (fun r6 hp7 => ?_)
    rcases hp7 with ⟨rfl, hp7⟩ | ⟨rfl, hp7⟩
    · refine b_if_eq C 43 dX1_lawWall_36 (by decide) (show (1 : Int32).toInt = 1 by decide) (fun c9 => absurd c9 (by decide)) (fun c9 => ?_)
      refine v_iload_n C 3 dX1_lawWall_39 rfl rfl ?_
      refine v_goto C 44 dX1_lawWall_40 (by decide) ?_
      exact v_ret C dX1_lawWall_44 rfl rfl ⟨(show (-1 : Int) ≤ Int32.toInt (-1) ∧ Int32.toInt (-1) ≤ 69263999 by decide), rfl⟩
    · refine b_if_eq C 43 dX1_lawWall_36 (by decide) (show (0 : Int32).toInt = 0 by decide) (fun c10 => ?_) (fun c10 => absurd c10 (by decide))
      refine v_iconst (v := (-1)) C dX1_lawWall_43 (by decide) ?_
      exact v_ret C dX1_lawWall_44 rfl rfl ⟨(show (-1 : Int) ≤ Int32.toInt (-1) ∧ Int32.toInt (-1) ≤ 69263999 by decide), rfl⟩
  · obtain ⟨b5, eb5⟩ : ∃ q : Nat, q = 98 + 9 * i5x := ⟨_, rfl⟩
    rw [← eb5]
    have hb5 : ZC k b5 := ⟨_, hk5, eb5⟩
    have hb5n := hb5.n
    refine v_astore_n (lv' := [(0, .ref (ad 48)), (1, .int x), (2, .ref (ad b5))]) C [1, 2, 0] dX1_lawWall_11 rfl (by decide) rfl ?_
    refine v_aload_n C 2 dX1_lawWall_12 rfl rfl ?_
    refine v_ifnonnull C 20 dX1_lawWall_13 (by decide) ?_
    refine v_iload_n C 1 dX1_lawWall_20 rfl rfl ?_
    refine v_aload_n C 2 dX1_lawWall_21 rfl rfl ?_
    refine v_iload_n C 1 dX1_lawWall_22 rfl rfl ?_
    obtain ⟨i13, hE13, hb13⟩ := hJ.2.2.getO (b := b5) (by omega) hb5.t0
    refine v_cVp C dX1_lawWall_23 lX1_66 mX6_offsetAt b5 (by omega) hE13 (by decide) rfl (t_X6_offsetAt l G ad hJ b5 hb5 x) ⟨by decide, by decide⟩ rfl (Nat.le_of_ble_eq_true rfl) ⟨Nat.zero_le _, Nat.zero_le _⟩ (fun r11 hp12 => ?_)
    refine v_iadd C dX1_lawWall_26 ?_
    refine v_top (fun x14 _ => ?_)
    refine v_istore_n (lv' := [(0, .ref (ad 48)), (1, .int x), (2, .ref (ad b5)), (3, .int x14)]) C [1, 2, 3, 0] dX1_lawWall_27 rfl (by decide) rfl ?_
    refine v_aload_n C 0 dX1_lawWall_28 rfl rfl ?_
    refine v_getr C 48 dX1_lawWall_29 fX1_9 (by omega) hE1 rfl rfl ?_
    refine v_iload_n C 3 dX1_lawWall_32 rfl rfl ?_
    obtain ⟨ic17, md17, ms17, ld17, ys17, hC117, hC217, hC317, hC417, hC517, hCP17, hCF17⟩ := hJ.cal
    have hCl17 := cal_b hCP17
    have hCy17 := cal_y hCP17
    refine v_cVp C dX1_lawWall_33 lX1_71 mX0_hasWall 1 (by omega) hC117 (by decide) rfl (c_hasWall l G _ ad _ (by omega) hC117 hC217 hC317 hC417 hC517 hCP17 hCF17 x14) ⟨by decide, by decide⟩ rfl (Nat.le_of_ble_eq_true rfl) ⟨Nat.zero_le _, Nat.zero_le _⟩ (fun r15 hp16 => ?_)
    rcases hp16 with ⟨rfl, hp16⟩ | ⟨rfl, hp16⟩
    · refine b_if_eq C 43 dX1_lawWall_36 (by decide) (show (1 : Int32).toInt = 1 by decide) (fun c18 => absurd c18 (by decide)) (fun c18 => ?_)
      refine v_iload_n C 3 dX1_lawWall_39 rfl rfl ?_
      refine v_goto C 44 dX1_lawWall_40 (by decide) ?_
      exact v_ret C dX1_lawWall_44 rfl rfl ⟨(show (-1 : Int) ≤ Int32.toInt x14 ∧ Int32.toInt x14 ≤ 69263999 by omega), rfl⟩
    · refine b_if_eq C 43 dX1_lawWall_36 (by decide) (show (0 : Int32).toInt = 0 by decide) (fun c19 => ?_) (fun c19 => absurd c19 (by decide))
      refine v_iconst (v := (-1)) C dX1_lawWall_43 (by decide) ?_
      exact v_ret C dX1_lawWall_44 rfl rfl ⟨(show (-1 : Int) ≤ Int32.toInt (-1) ∧ Int32.toInt (-1) ≤ 69263999 by decide), rfl⟩

set_option maxRecDepth 20000 in
theorem t_X1_isAtMinute (l : Launch) (G : Gl) (ad : Nat → Nat) {k : Nat} {E0 E : Nat → va_E} (hJ : J8 G ad k E0 E) (x : Int32) : CtI l G yX1_isAtMinute cX1_isAtMinute 3 .boolean 3 67 (98 + 9 * k) ad E [.ref (ad 48), .int x] (fun r E' => (r = 0 ∨ r = 1) ∧ E = E') := by
  refine CtI.of (by decide) (Nat.le_of_ble_eq_true rfl) (fun X A C => ?_)
  refine v_sub (lv' := [(0, .ref (ad 48)), (1, .int x)]) [0, 1] rfl ?_
  have hk5 := hJ.1
  refine v_aload_n C 0 dX1_isAtMinute_0 rfl rfl ?_
  refine v_iload_n C 1 dX1_isAtMinute_1 rfl rfl ?_
  obtain ⟨i3, hE3, hb3⟩ := hJ.2.2.getO (b := 48) (by omega) rfl
  refine v_cVp C dX1_isAtMinute_2 lX1_51 mX1_lawWall 48 (by omega) hE3 (by decide) rfl (t_X1_lawWall l G ad hJ x) ⟨by decide, by decide⟩ rfl (Nat.le_of_ble_eq_true rfl) ⟨Nat.zero_le _, Nat.zero_le _⟩ (fun r1 hp2 => ?_)
  refine v_istore_n (lv' := [(0, .ref (ad 48)), (1, .int x), (2, .int r1)]) C [1, 2, 0] dX1_isAtMinute_5 rfl (by decide) rfl ?_
  refine v_iload_n C 2 dX1_isAtMinute_6 rfl rfl ?_
  refine v_iconst (v := (-1)) C dX1_isAtMinute_7 (by decide) ?_
  refine b_icmp_eq C 27 dX1_isAtMinute_8 (by decide) (rfl : Int32.toInt r1 = _) (show ((-1) : Int32).toInt = (-1) by decide) (fun c4 => ?_) (fun c4 => ?_)
  · refine v_iconst (v := 0) C dX1_isAtMinute_27 (by decide) ?_
    exact v_ret C dX1_isAtMinute_28 rfl rfl ⟨Or.inl rfl, rfl⟩
  · refine v_iload_n C 2 dX1_isAtMinute_11 rfl rfl ?_
    refine v_sipush (v := 1440) C dX1_isAtMinute_12 (by decide) ?_
    refine v_irem C dX1_isAtMinute_15 (by decide) ?_
    refine v_top (fun x5 _ => ?_)
    refine v_aload_n C 0 dX1_isAtMinute_16 rfl rfl ?_
    refine v_geti (v := i3 6) C 48 dX1_isAtMinute_17 fX1_39 (by omega) hE3 rfl rfl ?_
    refine b_icmp_ne C 27 dX1_isAtMinute_20 (by decide) (rfl : Int32.toInt x5 = _) (rfl : Int32.toInt (i3 6) = _) (fun c6 => ?_) (fun c6 => ?_)
    · refine v_iconst (v := 0) C dX1_isAtMinute_27 (by decide) ?_
      exact v_ret C dX1_isAtMinute_28 rfl rfl ⟨Or.inl rfl, rfl⟩
    · refine v_iconst (v := 1) C dX1_isAtMinute_23 (by decide) ?_
      refine v_goto C 28 dX1_isAtMinute_24 (by decide) ?_
      exact v_ret C dX1_isAtMinute_28 rfl rfl ⟨Or.inr rfl, rfl⟩

set_option maxRecDepth 20000 in
theorem t_X1_haveSameWeekday (l : Launch) (G : Gl) (ad : Nat → Nat) {k : Nat} {E0 E : Nat → va_E} (hJ : J8 G ad k E0 E) (x : Int32) (y : Int32) : CtI l G yX1_haveSameWeekday cX1_haveSameWeekday 5 .boolean 3 67 (98 + 9 * k) ad E [.ref (ad 48), .int x, .int y] (fun r E' => (r = 0 ∨ r = 1) ∧ E = E') := by
  refine CtI.of (by decide) (Nat.le_of_ble_eq_true rfl) (fun X A C => ?_)
  refine v_sub (lv' := [(0, .ref (ad 48)), (1, .int x), (2, .int y)]) [0, 1, 2] rfl ?_
  have hk5 := hJ.1
  refine v_aload_n C 0 dX1_haveSameWeekday_0 rfl rfl ?_
  refine v_iload_n C 1 dX1_haveSameWeekday_1 rfl rfl ?_
  obtain ⟨i3, hE3, hb3⟩ := hJ.2.2.getO (b := 48) (by omega) rfl
  refine v_cVp C dX1_haveSameWeekday_2 lX1_51 mX1_lawWall 48 (by omega) hE3 (by decide) rfl (t_X1_lawWall l G ad hJ x) ⟨by decide, by decide⟩ rfl (Nat.le_of_ble_eq_true rfl) ⟨Nat.zero_le _, Nat.zero_le _⟩ (fun r1 hp2 => ?_)
  refine v_istore_n (lv' := [(0, .ref (ad 48)), (1, .int x), (2, .int y), (3, .int r1)]) C [1, 2, 3, 0] dX1_haveSameWeekday_5 rfl (by decide) rfl ?_
  refine v_aload_n C 0 dX1_haveSameWeekday_6 rfl rfl ?_
  refine v_iload_n C 2 dX1_haveSameWeekday_7 rfl rfl ?_
  refine v_cVp C dX1_haveSameWeekday_8 lX1_51 mX1_lawWall 48 (by omega) hE3 (by decide) rfl (t_X1_lawWall l G ad hJ y) ⟨by decide, by decide⟩ rfl (Nat.le_of_ble_eq_true rfl) ⟨Nat.zero_le _, Nat.zero_le _⟩ (fun r4 hp5 => ?_)
  refine v_istore (lv' := [(0, .ref (ad 48)), (1, .int x), (2, .int y), (3, .int r1), (4, .int r4)]) C [1, 2, 3, 4, 0] dX1_haveSameWeekday_11 (by decide) rfl ?_
  refine v_iload_n C 3 dX1_haveSameWeekday_13 rfl rfl ?_
  refine v_iconst (v := (-1)) C dX1_haveSameWeekday_14 (by decide) ?_
  refine b_icmp_eq C 24 dX1_haveSameWeekday_15 (by decide) (rfl : Int32.toInt r1 = _) (show ((-1) : Int32).toInt = (-1) by decide) (fun c6 => ?_) (fun c6 => ?_)
  · refine v_iconst (v := 0) C dX1_haveSameWeekday_24 (by decide) ?_
    exact v_ret C dX1_haveSameWeekday_25 rfl rfl ⟨Or.inl rfl, rfl⟩
  · refine v_iload C 4 dX1_haveSameWeekday_18 rfl ?_
    refine v_iconst (v := (-1)) C dX1_haveSameWeekday_20 (by decide) ?_
    refine b_icmp_ne C 26 dX1_haveSameWeekday_21 (by decide) (rfl : Int32.toInt r4 = _) (show ((-1) : Int32).toInt = (-1) by decide) (fun c7 => ?_) (fun c7 => ?_)
    · refine v_aload_n C 0 dX1_haveSameWeekday_26 rfl rfl ?_
      refine v_getr C 48 dX1_haveSameWeekday_27 fX1_9 (by omega) hE3 rfl rfl ?_
      refine v_iload_n C 3 dX1_haveSameWeekday_30 rfl rfl ?_
      refine v_sipush (v := 1440) C dX1_haveSameWeekday_31 (by decide) ?_
      refine v_idiv C dX1_haveSameWeekday_34 (by decide) ?_
      refine v_top (fun x8 ex8 => ?_)
      have hx8 : (-1491308 : Int) ≤ x8.toInt ∧ x8.toInt ≤ 1491308 := by rw [ex8]; exact ti_tdb (show (1440 : Int32).toInt = 1440 by decide) (by decide)
      obtain ⟨ic11, md11, ms11, ld11, ys11, hC111, hC211, hC311, hC411, hC511, hCP11, hCF11⟩ := hJ.cal
      have hCl11 := cal_b hCP11
      have hCy11 := cal_y hCP11
      refine v_cVp C dX1_haveSameWeekday_35 lX1_55 mX0_weekdayOf 1 (by omega) hC111 (by decide) rfl (c_weekdayOf l G _ ad _ (by omega) hC111 hC211 hC311 hC411 hC511 hCP11 hCF11 x8 (by omega) (by omega)) ⟨by decide, by decide⟩ rfl (Nat.le_of_ble_eq_true rfl) ⟨Nat.zero_le _, Nat.zero_le _⟩ (fun r9 hp10 => ?_)
      refine v_aload_n C 0 dX1_haveSameWeekday_38 rfl rfl ?_
      refine v_getr C 48 dX1_haveSameWeekday_39 fX1_9 (by omega) hE3 rfl rfl ?_
      refine v_iload C 4 dX1_haveSameWeekday_42 rfl ?_
      refine v_sipush (v := 1440) C dX1_haveSameWeekday_44 (by decide) ?_
      refine v_idiv C dX1_haveSameWeekday_47 (by decide) ?_
      refine v_top (fun x12 ex12 => ?_)
      have hx12 : (-1491308 : Int) ≤ x12.toInt ∧ x12.toInt ≤ 1491308 := by rw [ex12]; exact ti_tdb (show (1440 : Int32).toInt = 1440 by decide) (by decide)
      refine v_cVp C dX1_haveSameWeekday_48 lX1_55 mX0_weekdayOf 1 (by omega) hC111 (by decide) rfl (c_weekdayOf l G _ ad _ (by omega) hC111 hC211 hC311 hC411 hC511 hCP11 hCF11 x12 (by omega) (by omega)) ⟨by decide, by decide⟩ rfl (Nat.le_of_ble_eq_true rfl) ⟨Nat.zero_le _, Nat.zero_le _⟩ (fun r13 hp14 => ?_)
      refine b_icmp_ne C 58 dX1_haveSameWeekday_51 (by decide) (rfl : Int32.toInt r9 = _) (rfl : Int32.toInt r13 = _) (fun c15 => ?_) (fun c15 => ?_)
      · refine v_iconst (v := 0) C dX1_haveSameWeekday_58 (by decide) ?_
        exact v_ret C dX1_haveSameWeekday_59 rfl rfl ⟨Or.inl rfl, rfl⟩
      · refine v_iconst (v := 1) C dX1_haveSameWeekday_54 (by decide) ?_
        refine v_goto C 59 dX1_haveSameWeekday_55 (by decide) ?_
        exact v_ret C dX1_haveSameWeekday_59 rfl rfl ⟨Or.inr rfl, rfl⟩
    · refine v_iconst (v := 0) C dX1_haveSameWeekday_24 (by decide) ?_
      exact v_ret C dX1_haveSameWeekday_25 rfl rfl ⟨Or.inl rfl, rfl⟩

set_option maxRecDepth 20000 in
theorem t_X1_holds (l : Launch) (G : Gl) (ad : Nat → Nat) {k : Nat} {E0 E : Nat → va_E} (hJ : J8 G ad k E0 E) (x : Int32) (y : Int32) (z : Int32) : CtI l G yX1_holds cX1_holds 4 .boolean 4 91 (98 + 9 * k) ad E [.ref (ad 48), .int x, .int y, .int z] (fun r E' => (r = 0 ∨ r = 1) ∧ E = E') := by
  refine CtI.of (by decide) (Nat.le_of_ble_eq_true rfl) (fun X A C => ?_)
  refine v_sub (lv' := [(0, .ref (ad 48)), (1, .int x), (2, .int y), (3, .int z)]) [0, 1, 2, 3] rfl ?_
  have hk5 := hJ.1
  refine v_iload_n C 2 dX1_holds_0 rfl rfl ?_
  refine v_ldc C dX1_holds_1 kX1_42 ?_
  refine b_icmp_ne C 8 dX1_holds_3 (by decide) (rfl : Int32.toInt y = _) (show ((-2000000000) : Int32).toInt = (-2000000000) by decide) (fun c1 => ?_) (fun c1 => ?_)
  · refine v_aload_n C 0 dX1_holds_8 rfl rfl ?_
    obtain ⟨i2, hE2, hb2⟩ := hJ.2.2.getO (b := 48) (by omega) rfl
    refine v_geti (v := i2 4) C 48 dX1_holds_9 fX1_32 (by omega) hE2 rfl rfl ?_
    have q3v : Int32.toInt (i2 4) = (i2 4).toInt := (rfl : Int32.toInt (i2 4) = _)
    rcases (show (i2 4).toInt = 0 ∨ (i2 4).toInt = 1 ∨ (i2 4).toInt = 2 ∨ (i2 4).toInt = 3 ∨ ((i2 4).toInt < 0 ∨ 3 < (i2 4).toInt) by omega) with q3 | q3 | q3 | q3 | q3
    · refine v_tableIn (off := 32) C 44 dX1_holds_12 (by omega) (by omega) (by rw [q3v, q3]; rfl) (by decide) ?_
      refine v_iload_n C 1 dX1_holds_44 rfl rfl ?_
      refine b_if_ne C 62 dX1_holds_45 (by decide) (rfl : Int32.toInt x = _) (fun c4 => ?_) (fun c4 => ?_)
      · refine v_iconst (v := 0) C dX1_holds_62 (by decide) ?_
        exact v_ret C dX1_holds_63 rfl rfl ⟨Or.inl rfl, rfl⟩
      · refine v_iload_n C 2 dX1_holds_48 rfl rfl ?_
        refine v_iload_n C 3 dX1_holds_49 rfl rfl ?_
        refine v_isub C dX1_holds_50 ?_
        refine v_top (fun x5 _ => ?_)
        refine v_aload_n C 0 dX1_holds_51 rfl rfl ?_
        refine v_geti (v := i2 6) C 48 dX1_holds_52 fX1_39 (by omega) hE2 rfl rfl ?_
        refine b_icmp_lt C 62 dX1_holds_55 (by decide) (rfl : Int32.toInt x5 = _) (rfl : Int32.toInt (i2 6) = _) (fun c6 => ?_) (fun c6 => ?_)
        · refine v_iconst (v := 0) C dX1_holds_62 (by decide) ?_
          exact v_ret C dX1_holds_63 rfl rfl ⟨Or.inl rfl, rfl⟩
        · refine v_iconst (v := 1) C dX1_holds_58 (by decide) ?_
          refine v_goto C 63 dX1_holds_59 (by decide) ?_
          exact v_ret C dX1_holds_63 rfl rfl ⟨Or.inr rfl, rfl⟩
    · refine v_tableIn (off := 52) C 64 dX1_holds_12 (by omega) (by omega) (by rw [q3v, q3]; rfl) (by decide) ?_
      refine v_iload_n C 1 dX1_holds_64 rfl rfl ?_
      refine b_if_ne C 80 dX1_holds_65 (by decide) (rfl : Int32.toInt x = _) (fun c7 => ?_) (fun c7 => ?_)
      · refine v_iconst (v := 0) C dX1_holds_80 (by decide) ?_
        exact v_ret C dX1_holds_81 rfl rfl ⟨Or.inl rfl, rfl⟩
      · refine v_aload_n C 0 dX1_holds_68 rfl rfl ?_
        refine v_iload_n C 2 dX1_holds_69 rfl rfl ?_
        refine v_cVp C dX1_holds_70 lX1_43 mX1_isAtMinute 48 (by omega) hE2 (by decide) rfl (t_X1_isAtMinute l G ad hJ y) ⟨by decide, by decide⟩ rfl (Nat.le_of_ble_eq_true rfl) ⟨Nat.zero_le _, Nat.zero_le _⟩ (fun r8 hp9 => ?_)
        rcases hp9 with rfl | rfl
        · refine b_if_eq C 80 dX1_holds_73 (by decide) (show (0 : Int32).toInt = 0 by decide) (fun c10 => ?_) (fun c10 => absurd c10 (by decide))
          refine v_iconst (v := 0) C dX1_holds_80 (by decide) ?_
          exact v_ret C dX1_holds_81 rfl rfl ⟨Or.inl rfl, rfl⟩
        · refine b_if_eq C 80 dX1_holds_73 (by decide) (show (1 : Int32).toInt = 1 by decide) (fun c11 => absurd c11 (by decide)) (fun c11 => ?_)
          refine v_iconst (v := 1) C dX1_holds_76 (by decide) ?_
          refine v_goto C 81 dX1_holds_77 (by decide) ?_
          exact v_ret C dX1_holds_81 rfl rfl ⟨Or.inr rfl, rfl⟩
    · refine v_tableIn (off := 70) C 82 dX1_holds_12 (by omega) (by omega) (by rw [q3v, q3]; rfl) (by decide) ?_
      refine v_iload_n C 1 dX1_holds_82 rfl rfl ?_
      refine b_if_ne C 99 dX1_holds_83 (by decide) (rfl : Int32.toInt x = _) (fun c12 => ?_) (fun c12 => ?_)
      · refine v_iconst (v := 0) C dX1_holds_99 (by decide) ?_
        exact v_ret C dX1_holds_100 rfl rfl ⟨Or.inl rfl, rfl⟩
      · refine v_aload_n C 0 dX1_holds_86 rfl rfl ?_
        refine v_iload_n C 2 dX1_holds_87 rfl rfl ?_
        refine v_iload_n C 3 dX1_holds_88 rfl rfl ?_
        refine v_cVp C dX1_holds_89 lX1_47 mX1_haveSameWeekday 48 (by omega) hE2 (by decide) rfl (t_X1_haveSameWeekday l G ad hJ y z) ⟨by decide, by decide⟩ rfl (Nat.le_of_ble_eq_true rfl) ⟨Nat.zero_le _, Nat.zero_le _⟩ (fun r13 hp14 => ?_)
        rcases hp14 with rfl | rfl
        · refine b_if_eq C 99 dX1_holds_92 (by decide) (show (0 : Int32).toInt = 0 by decide) (fun c15 => ?_) (fun c15 => absurd c15 (by decide))
          refine v_iconst (v := 0) C dX1_holds_99 (by decide) ?_
          exact v_ret C dX1_holds_100 rfl rfl ⟨Or.inl rfl, rfl⟩
        · refine b_if_eq C 99 dX1_holds_92 (by decide) (show (1 : Int32).toInt = 1 by decide) (fun c16 => absurd c16 (by decide)) (fun c16 => ?_)
          refine v_iconst (v := 1) C dX1_holds_95 (by decide) ?_
          refine v_goto C 100 dX1_holds_96 (by decide) ?_
          exact v_ret C dX1_holds_100 rfl rfl ⟨Or.inr rfl, rfl⟩
    · refine v_tableIn (off := 89) C 101 dX1_holds_12 (by omega) (by omega) (by rw [q3v, q3]; rfl) (by decide) ?_
      refine v_iload_n C 1 dX1_holds_101 rfl rfl ?_
      refine v_iconst (v := 3) C dX1_holds_102 (by decide) ?_
      refine b_icmp_ne C 118 dX1_holds_103 (by decide) (rfl : Int32.toInt x = _) (show (3 : Int32).toInt = 3 by decide) (fun c17 => ?_) (fun c17 => ?_)
      · refine v_iconst (v := 0) C dX1_holds_118 (by decide) ?_
        exact v_ret C dX1_holds_119 rfl rfl ⟨Or.inl rfl, rfl⟩
      · refine v_iload_n C 2 dX1_holds_106 rfl rfl ?_
        refine v_aload_n C 0 dX1_holds_107 rfl rfl ?_
        refine v_geti (v := i2 6) C 48 dX1_holds_108 fX1_39 (by omega) hE2 rfl rfl ?_
        refine b_icmp_lt C 118 dX1_holds_111 (by decide) (rfl : Int32.toInt y = _) (rfl : Int32.toInt (i2 6) = _) (fun c18 => ?_) (fun c18 => ?_)
        · refine v_iconst (v := 0) C dX1_holds_118 (by decide) ?_
          exact v_ret C dX1_holds_119 rfl rfl ⟨Or.inl rfl, rfl⟩
        · refine v_iconst (v := 1) C dX1_holds_114 (by decide) ?_
          refine v_goto C 119 dX1_holds_115 (by decide) ?_
          exact v_ret C dX1_holds_119 rfl rfl ⟨Or.inr rfl, rfl⟩
    · refine v_tableOut C 120 dX1_holds_12 (by omega) (by decide) ?_
      refine v_iconst (v := 1) C dX1_holds_120 (by decide) ?_
      exact v_ret C dX1_holds_121 rfl rfl ⟨Or.inr rfl, rfl⟩
  · refine v_iconst (v := 0) C dX1_holds_6 (by decide) ?_
    exact v_ret C dX1_holds_7 rfl rfl ⟨Or.inl rfl, rfl⟩

set_option maxRecDepth 20000 in
theorem t_X1_firstBroken (l : Launch) (G : Gl) (ad : Nat → Nat) {k : Nat} {E0 E : Nat → va_E} (hJ : J8 G ad k E0 E) (c : Nat) (hc : PC c) : CtI l G yX1_firstBroken cX1_firstBroken 4 .int 5 124 (98 + 9 * k) ad E [.ref (ad 48), .ref (ad c)] (fun r E' => ((-2147483648 : Int) ≤ r.toInt ∧ r.toInt ≤ 2147483647) ∧ J8 G ad k E0 E') := by
  refine CtI.of (by decide) (Nat.le_of_ble_eq_true rfl) (fun X A C => ?_)
  refine v_sub (lv' := [(0, .ref (ad 48)), (1, .ref (ad c))]) [0, 1] rfl ?_
  have hk5 := hJ.1
  have hcn := hc.n
  refine v_iconst (v := 0) C dX1_firstBroken_0 (by decide) ?_
  refine v_istore_n (lv' := [(0, .ref (ad 48)), (1, .ref (ad c)), (2, .int 0)]) C [1, 2, 0] dX1_firstBroken_1 rfl (by decide) rfl ?_
  have LP1 : ∀ (t : Nat) (E3 : Nat → va_E) (y2 : Int32), J8 G ad k E0 E3 → ((0 : Int) ≤ y2.toInt ∧ y2.toInt ≤ 26002) → 26003 - y2.toInt < (t : Int) → V X G A 4 (QI X G A (98 + 9 * k) ad (fun r E' => ((-2147483648 : Int) ≤ r.toInt ∧ r.toInt ≤ 2147483647) ∧ J8 G ad k E0 E')) (98 + 9 * k) ad 0 0 E3 2 [(0, .ref (ad 48)), (1, .ref (ad c)), (2, .int y2)] [] := by
    intro t7
    induction t7 with
    | zero => intro E3 y2 hJ4 hy2 hm6; exfalso; omega
    | succ t7 ih5 =>
      intro E3 y2 hJ4 hy2 hm6
      refine v_iload_n C 2 dX1_firstBroken_2 rfl rfl ?_
      refine v_aload_n C 0 dX1_firstBroken_3 rfl rfl ?_
      obtain ⟨i8, hE8, hb8⟩ := hJ4.2.2.getO (b := 48) (by omega) rfl
      refine v_getr C 48 dX1_firstBroken_4 fX1_19 (by omega) hE8 rfl rfl ?_
      obtain ⟨i9, hE9, hb9⟩ := hJ4.2.2.getO (b := 45) (by omega) rfl
      refine v_geti (v := i9 2) C 45 dX1_firstBroken_7 fX1_74 (by omega) hE9 rfl rfl ?_
      have hi9_2 : (0 : Int) ≤ (i9 2).toInt ∧ (i9 2).toInt ≤ 26002 := hb9 2
      refine b_icmp_ge C 52 dX1_firstBroken_10 (by decide) (rfl : Int32.toInt y2 = _) (rfl : Int32.toInt (i9 2) = _) (fun c10 => ?_) (fun c10 => ?_)
      · refine v_iconst (v := (-1)) C dX1_firstBroken_52 (by decide) ?_
        exact v_ret C dX1_firstBroken_53 rfl rfl ⟨(ti_any (-1)), hJ4⟩
      · refine v_aload_n C 0 dX1_firstBroken_13 rfl rfl ?_
        refine v_getr C 48 dX1_firstBroken_14 fX1_19 (by omega) hE8 rfl rfl ?_
        refine v_getr C 45 dX1_firstBroken_17 fX1_79 (by omega) hE9 rfl rfl ?_
        refine v_iload_n C 2 dX1_firstBroken_20 rfl rfl ?_
        obtain ⟨f11, hE11, hb11⟩ := hJ4.2.2.getA (b := 47) (by omega) rfl
        refine v_ald (v := f11 (y2.toInt).toNat) C 47 dX1_firstBroken_21 (by omega) hE11 (ti_in (rfl : Int32.toInt y2 = _) (by omega) (by omega)) (by rw [ti_cl (rfl : Int32.toInt y2 = _)]) ?_
        refine v_top (fun x12 _ => ?_)
        refine v_istore_n (lv' := [(0, .ref (ad 48)), (1, .ref (ad c)), (2, .int y2), (3, .int x12)]) C [1, 2, 3, 0] dX1_firstBroken_22 rfl (by decide) rfl ?_
        refine v_aload_n C 0 dX1_firstBroken_23 rfl rfl ?_
        refine v_aload_n C 1 dX1_firstBroken_24 rfl rfl ?_
        obtain ⟨i13, hE13, hb13⟩ := hJ4.2.2.getO (b := c) (by omega) (hc.t0 k)
        refine v_geti (v := i13 8) C c dX1_firstBroken_25 fX1_83 (by omega) hE13 rfl rfl ?_
        refine v_aload_n C 0 dX1_firstBroken_28 rfl rfl ?_
        refine v_getr C 48 dX1_firstBroken_29 fX1_28 (by omega) hE8 rfl rfl ?_
        refine v_aload_n C 1 dX1_firstBroken_32 rfl rfl ?_
        refine v_iload_n C 3 dX1_firstBroken_33 rfl rfl ?_
        obtain ⟨i18, hE18, hb18⟩ := hJ4.2.2.getO (b := 49) (by omega) rfl
        refine v_cVi C dX1_firstBroken_34 lX1_88 mX2_answerOf 49 (by omega) hE18 (by decide) rfl (t_X2_answerOf l G ad hJ4 c hc x12) ⟨by decide, by decide⟩ rfl (Nat.le_of_ble_eq_true rfl) ⟨Nat.zero_le _, Nat.zero_le _⟩ (fun r14 E15 hp16 => ?_)
        obtain ⟨hp16, hJ17⟩ := hp16
        refine v_iload_n C 3 dX1_firstBroken_37 rfl rfl ?_
        obtain ⟨i21, hE21, hb21⟩ := hJ17.2.2.getO (b := 48) (by omega) rfl
        refine v_cVp C dX1_firstBroken_38 lX1_92 mX1_holds 48 (by omega) hE21 (by decide) rfl (t_X1_holds l G ad hJ17 (i13 8) r14 x12) ⟨by decide, by decide⟩ rfl (Nat.le_of_ble_eq_true rfl) ⟨Nat.zero_le _, Nat.zero_le _⟩ (fun r19 hp20 => ?_)
        rcases hp20 with rfl | rfl
        · refine b_if_ne C 46 dX1_firstBroken_41 (by decide) (show (0 : Int32).toInt = 0 by decide) (fun c22 => absurd c22 (by decide)) (fun c22 => ?_)
          refine v_iload_n C 3 dX1_firstBroken_44 rfl rfl ?_
          exact v_ret C dX1_firstBroken_45 rfl rfl ⟨(ti_any x12), hJ17⟩
        · refine b_if_ne C 46 dX1_firstBroken_41 (by decide) (show (1 : Int32).toInt = 1 by decide) (fun c23 => ?_) (fun c23 => absurd c23 (by decide))
          obtain ⟨x24, ex24⟩ : ∃ y : Int32, y = y2 + 1 := ⟨_, rfl⟩
          have hx24 : x24.toInt = (y2.toInt + 1) := by rw [ex24]; exact ti_add (rfl : Int32.toInt y2 = _) (show (1 : Int32).toInt = 1 by decide) (by omega) (by omega)
          refine v_iinc (v := x24) (lv' := [(0, .ref (ad 48)), (1, .ref (ad c)), (2, .int x24), (3, .int x12)]) C 2 [1, 2, 0, 3] dX1_firstBroken_46 rfl (ex24.symm) (by decide) rfl ?_
          refine v_goto C 2 dX1_firstBroken_49 (by decide) ?_
          refine v_sub (lv' := [(0, .ref (ad 48)), (1, .ref (ad c)), (2, .int x24)]) [0, 1, 2] rfl ?_
          exact ih5 _ x24 hJ17 (by have := hx24; omega) (by have := hx24; omega)
  exact LP1 100000 _ 0 hJ (by have := (show (0 : Int32).toInt = 0 by decide); omega) (by have := (show (0 : Int32).toInt = 0 by decide); omega)

set_option maxRecDepth 20000 in
theorem t_X1_isRight (l : Launch) (G : Gl) (ad : Nat → Nat) {k : Nat} {E0 E : Nat → va_E} (hJ : J8 G ad k E0 E) (c : Nat) (hc : PC c) : CtI l G yX1_isRight cX1_isRight 4 .boolean 5 124 (98 + 9 * k) ad E [.ref (ad 48), .ref (ad c)] (fun r E' => (r = 0 ∨ r = 1) ∧ J8 G ad k E0 E') := by
  refine CtI.of (by decide) (Nat.le_of_ble_eq_true rfl) (fun X A C => ?_)
  refine v_sub (lv' := [(0, .ref (ad 48)), (1, .ref (ad c))]) [0, 1] rfl ?_
  have hk5 := hJ.1
  have hcn := hc.n
  refine v_aload_n C 1 dX1_isRight_0 rfl rfl ?_
  obtain ⟨i1, hE1, hb1⟩ := hJ.2.2.getO (b := c) (by omega) (hc.t0 k)
  refine v_geti (v := i1 7) C c dX1_isRight_1 fX1_96 (by omega) hE1 rfl rfl ?_
  refine v_iconst (v := (-1)) C dX1_isRight_4 (by decide) ?_
  refine b_icmp_eq C 10 dX1_isRight_5 (by decide) (rfl : Int32.toInt (i1 7) = _) (show ((-1) : Int32).toInt = (-1) by decide) (fun c2 => ?_) (fun c2 => ?_)
  · refine v_iconst (v := (-1)) C dX1_isRight_10 (by decide) ?_
    refine v_istore_n (lv' := [(0, .ref (ad 48)), (1, .ref (ad c)), (2, .int (-1))]) C [1, 2, 0] dX1_isRight_11 rfl (by decide) rfl ?_
    have LP3 : ∀ (t : Nat) (E5 : Nat → va_E) (y4 : Int32), J8 G ad k E0 E5 → ((-1 : Int) ≤ y4.toInt ∧ y4.toInt ≤ 26002) → 26003 - y4.toInt < (t : Int) → V X G A 4 (QI X G A (98 + 9 * k) ad (fun r E' => (r = 0 ∨ r = 1) ∧ J8 G ad k E0 E')) (98 + 9 * k) ad 0 0 E5 12 [(0, .ref (ad 48)), (1, .ref (ad c)), (2, .int y4)] [] := by
      intro t9
      induction t9 with
      | zero => intro E5 y4 hJ6 hy4 hm8; exfalso; omega
      | succ t9 ih7 =>
        intro E5 y4 hJ6 hy4 hm8
        refine v_iload_n C 2 dX1_isRight_12 rfl rfl ?_
        refine v_aload_n C 0 dX1_isRight_13 rfl rfl ?_
        obtain ⟨i10, hE10, hb10⟩ := hJ6.2.2.getO (b := 48) (by omega) rfl
        refine v_getr C 48 dX1_isRight_14 fX1_19 (by omega) hE10 rfl rfl ?_
        obtain ⟨i11, hE11, hb11⟩ := hJ6.2.2.getO (b := 45) (by omega) rfl
        refine v_geti (v := i11 2) C 45 dX1_isRight_17 fX1_74 (by omega) hE11 rfl rfl ?_
        have hi11_2 : (0 : Int) ≤ (i11 2).toInt ∧ (i11 2).toInt ≤ 26002 := hb11 2
        refine b_icmp_ge C 78 dX1_isRight_20 (by decide) (rfl : Int32.toInt y4 = _) (rfl : Int32.toInt (i11 2) = _) (fun c12 => ?_) (fun c12 => ?_)
        · refine v_iconst (v := 1) C dX1_isRight_78 (by decide) ?_
          exact v_ret C dX1_isRight_79 rfl rfl ⟨Or.inr rfl, hJ6⟩
        · have JN13 : ∀ (E15 : Nat → va_E) (y14 : Int32), J8 G ad k E0 E15 → V X G A 4 (QI X G A (98 + 9 * k) ad (fun r E' => (r = 0 ∨ r = 1) ∧ J8 G ad k E0 E')) (98 + 9 * k) ad 0 0 E15 43 [(0, .ref (ad 48)), (1, .ref (ad c)), (2, .int y4)] [.int y14] := by
            intro E15 y14 hJ16
            refine v_istore_n (lv' := [(0, .ref (ad 48)), (1, .ref (ad c)), (2, .int y4), (3, .int y14)]) C [1, 2, 3, 0] dX1_isRight_43 rfl (by decide) rfl ?_
            refine v_aload_n C 0 dX1_isRight_44 rfl rfl ?_
            refine v_aload_n C 1 dX1_isRight_45 rfl rfl ?_
            obtain ⟨i17, hE17, hb17⟩ := hJ16.2.2.getO (b := c) (by omega) (hc.t0 k)
            refine v_geti (v := i17 8) C c dX1_isRight_46 fX1_83 (by omega) hE17 rfl rfl ?_
            refine v_aload_n C 0 dX1_isRight_49 rfl rfl ?_
            obtain ⟨i18, hE18, hb18⟩ := hJ16.2.2.getO (b := 48) (by omega) rfl
            refine v_getr C 48 dX1_isRight_50 fX1_28 (by omega) hE18 rfl rfl ?_
            refine v_aload_n C 1 dX1_isRight_53 rfl rfl ?_
            refine v_iload_n C 3 dX1_isRight_54 rfl rfl ?_
            obtain ⟨i23, hE23, hb23⟩ := hJ16.2.2.getO (b := 49) (by omega) rfl
            refine v_cVi C dX1_isRight_55 lX1_88 mX2_answerOf 49 (by omega) hE23 (by decide) rfl (t_X2_answerOf l G ad hJ16 c hc y14) ⟨by decide, by decide⟩ rfl (Nat.le_of_ble_eq_true rfl) ⟨Nat.zero_le _, Nat.zero_le _⟩ (fun r19 E20 hp21 => ?_)
            obtain ⟨hp21, hJ22⟩ := hp21
            refine v_iload_n C 3 dX1_isRight_58 rfl rfl ?_
            obtain ⟨i26, hE26, hb26⟩ := hJ22.2.2.getO (b := 48) (by omega) rfl
            refine v_cVp C dX1_isRight_59 lX1_92 mX1_holds 48 (by omega) hE26 (by decide) rfl (t_X1_holds l G ad hJ22 (i17 8) r19 y14) ⟨by decide, by decide⟩ rfl (Nat.le_of_ble_eq_true rfl) ⟨Nat.zero_le _, Nat.zero_le _⟩ (fun r24 hp25 => ?_)
            rcases hp25 with rfl | rfl
            · refine b_if_ne C 72 dX1_isRight_62 (by decide) (show (0 : Int32).toInt = 0 by decide) (fun c27 => absurd c27 (by decide)) (fun c27 => ?_)
              refine v_aload_n C 0 dX1_isRight_65 rfl rfl ?_
              refine v_iload_n C 3 dX1_isRight_66 rfl rfl ?_
              refine v_puti C 48 dX1_isRight_67 fX1_99 (by omega) hE26 rfl rfl rfl rfl (fun E28 hE28_48 oE28 => ?_)
              obtain ⟨hJ29, hb30⟩ := hJ22.2.2.setO rfl (by unfold P8; omega) hb26 (k := 7) (ti_any y14) hE28_48 oE28
              have hJ29 := hJ22.with hJ29
              refine v_iconst (v := 0) C dX1_isRight_70 (by decide) ?_
              exact v_ret C dX1_isRight_71 rfl rfl ⟨Or.inl rfl, hJ29⟩
            · refine b_if_ne C 72 dX1_isRight_62 (by decide) (show (1 : Int32).toInt = 1 by decide) (fun c31 => ?_) (fun c31 => absurd c31 (by decide))
              obtain ⟨x32, ex32⟩ : ∃ y : Int32, y = y4 + 1 := ⟨_, rfl⟩
              have hx32 : x32.toInt = (y4.toInt + 1) := by rw [ex32]; exact ti_add (rfl : Int32.toInt y4 = _) (show (1 : Int32).toInt = 1 by decide) (by omega) (by omega)
              refine v_iinc (v := x32) (lv' := [(0, .ref (ad 48)), (1, .ref (ad c)), (2, .int x32), (3, .int y14)]) C 2 [1, 2, 0, 3] dX1_isRight_72 rfl (ex32.symm) (by decide) rfl ?_
              refine v_goto C 12 dX1_isRight_75 (by decide) ?_
              refine v_sub (lv' := [(0, .ref (ad 48)), (1, .ref (ad c)), (2, .int x32)]) [0, 1, 2] rfl ?_
              exact ih7 _ x32 hJ22 (by have := hx32; omega) (by have := hx32; omega)
          refine v_iload_n C 2 dX1_isRight_23 rfl rfl ?_
          refine b_if_ge C 34 dX1_isRight_24 (by decide) (rfl : Int32.toInt y4 = _) (fun c33 => ?_) (fun c33 => ?_)
          · refine v_aload_n C 0 dX1_isRight_34 rfl rfl ?_
            refine v_getr C 48 dX1_isRight_35 fX1_19 (by omega) hE10 rfl rfl ?_
            refine v_getr C 45 dX1_isRight_38 fX1_79 (by omega) hE11 rfl rfl ?_
            refine v_iload_n C 2 dX1_isRight_41 rfl rfl ?_
            obtain ⟨f34, hE34, hb34⟩ := hJ6.2.2.getA (b := 47) (by omega) rfl
            refine v_ald (v := f34 (y4.toInt).toNat) C 47 dX1_isRight_42 (by omega) hE34 (ti_in (rfl : Int32.toInt y4 = _) (by omega) (by omega)) (by rw [ti_cl (rfl : Int32.toInt y4 = _)]) ?_
            refine v_top (fun x35 _ => ?_)
            exact JN13 _ x35 hJ6 
          · refine v_aload_n C 0 dX1_isRight_27 rfl rfl ?_
            refine v_geti (v := i10 7) C 48 dX1_isRight_28 fX1_99 (by omega) hE10 rfl rfl ?_
            refine v_goto C 43 dX1_isRight_31 (by decide) ?_
            exact JN13 _ (i10 7) hJ6 
    exact LP3 100000 _ (-1) hJ (by have := (show ((-1) : Int32).toInt = (-1) by decide); omega) (by have := (show ((-1) : Int32).toInt = (-1) by decide); omega)
  · refine v_iconst (v := 0) C dX1_isRight_8 (by decide) ?_
    exact v_ret C dX1_isRight_9 rfl rfl ⟨Or.inl rfl, hJ⟩

