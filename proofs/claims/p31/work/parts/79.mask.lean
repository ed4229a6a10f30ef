theorem aI_inj {G : Gl} {n : Nat} {f g : Nat → Int32} (h : aI G n f = aI G n g) : f = g := by
  injection h with h1
  injection h1 with _ h2
  injection h2 with _ h3
  injection h3

set_option maxRecDepth 20000 in
theorem t_X9_spanEnd (l : Launch) (G : Gl) (ad : Nat → Nat) {n : Nat} {ic md : Nat → Int32} {bd : Nat → Int × Int} {E0 E : Nat → va_E} (hJ : JM G ad n ic md bd PR E0 E) (x : Int32) (hx : (0 : Int) ≤ x.toInt ∧ x.toInt ≤ 4) (y : Int32) (hy : (0 : Int) ≤ y.toInt ∧ y.toInt ≤ 800) (hpre0 : ∀ f : Nat → Int32, E 82 = aI G 5 f → y.toInt ≤ (f (x.toInt).toNat).toInt) : CtI l G yX9_spanEnd cX9_spanEnd 4 .int 0 0 (n) ad E [.ref (ad 68), .int x, .int y] (fun r E' => ((-2147483648 : Int) ≤ r.toInt ∧ r.toInt ≤ 2147483647) ∧ E = E') := by
  refine CtI.of (by decide) (Nat.le_of_ble_eq_true rfl) (fun X A C => ?_)
  refine v_sub (lv' := [(0, .ref (ad 68)), (1, .int x), (2, .int y)]) [0, 1, 2] rfl ?_
  have hn := hJ.hn
  have hz16 := hJ.2.2.2.2
  refine v_iload_n C 2 dX9_spanEnd_0 rfl rfl ?_
  refine v_aload_n C 0 dX9_spanEnd_1 rfl rfl ?_
  obtain ⟨im1, hM1, hb1⟩ := hJ.1
  have hq1 := hM1.b
  refine v_getr C 68 dX9_spanEnd_2 fX9_67 (by omega) hM1.2.2.1 rfl rfl ?_
  refine v_iload_n C 1 dX9_spanEnd_5 rfl rfl ?_
  obtain ⟨f3, hE3, hb3⟩ := hJ.2.1.getA (b := 82) (by omega) rfl
  refine v_ald (v := f3 (x.toInt).toNat) C 82 dX9_spanEnd_6 (by omega) hE3 (ti_in (rfl : Int32.toInt x = _) (by omega) (by omega)) (by rw [ti_cl (rfl : Int32.toInt x = _)]) ?_
  refine v_top (fun x4 ex4 => ?_)
  have hx4 : (0 : Int) ≤ x4.toInt ∧ x4.toInt ≤ 800 := by rw [ex4]; exact hb3 _
  have hk5 := hpre0 f3 hE3
  rw [← ex4] at hk5
  refine b_icmp_ne C 15 dX9_spanEnd_7 (by decide) (rfl : Int32.toInt y = _) (rfl : Int32.toInt x4 = _) (fun c6 => ?_) (fun c6 => ?_)
  · refine v_aload_n C 0 dX9_spanEnd_15 rfl rfl ?_
    refine v_getr C 68 dX9_spanEnd_16 fX9_61 (by omega) hM1.2.2.1 rfl rfl ?_
    refine v_sipush (v := 801) C dX9_spanEnd_19 (by decide) ?_
    refine v_iload_n C 1 dX9_spanEnd_22 rfl rfl ?_
    refine v_imul C dX9_spanEnd_23 ?_
    refine v_top (fun x7 ex7 => ?_)
    have hx7 : x7.toInt = (801 * x.toInt) := by rw [ex7]; exact ti_mul (show (801 : Int32).toInt = 801 by decide) (rfl : Int32.toInt x = _) (by omega) (by omega)
    refine v_iload_n C 2 dX9_spanEnd_24 rfl rfl ?_
    refine v_iadd C dX9_spanEnd_25 ?_
    refine v_top (fun x8 ex8 => ?_)
    have hx8 : x8.toInt = ((801 * x.toInt) + y.toInt) := by rw [ex8]; exact ti_add hx7 (rfl : Int32.toInt y = _) (by omega) (by omega)
    refine v_iconst (v := 1) C dX9_spanEnd_26 (by decide) ?_
    refine v_iadd C dX9_spanEnd_27 ?_
    refine v_top (fun x9 ex9 => ?_)
    have hx9 : x9.toInt = (((801 * x.toInt) + y.toInt) + 1) := by rw [ex9]; exact ti_add hx8 (show (1 : Int32).toInt = 1 by decide) (by omega) (by omega)
    obtain ⟨f11, hE11, hb11⟩ := hJ.2.1.getA (b := 80) (by omega) rfl
    refine v_ald (v := f11 ((((801 * x.toInt) + y.toInt) + 1)).toNat) C 80 dX9_spanEnd_28 (by omega) hE11 (ti_in hx9 (by omega) (by omega)) (by rw [ti_cl hx9]) ?_
    refine v_top (fun x12 _ => ?_)
    refine v_iconst (v := 1) C dX9_spanEnd_29 (by decide) ?_
    refine v_isub C dX9_spanEnd_30 ?_
    refine v_top (fun x13 _ => ?_)
    refine v_istore_n (lv' := [(0, .ref (ad 68)), (1, .int x), (2, .int y), (3, .int x13)]) C [1, 2, 3, 0] dX9_spanEnd_31 rfl (by decide) rfl ?_
    refine v_iload_n C 3 dX9_spanEnd_32 rfl rfl ?_
    refine v_ldc C dX9_spanEnd_33 kX9_178 ?_
    refine b_icmp_ge C 42 dX9_spanEnd_35 (by decide) (rfl : Int32.toInt x13 = _) (show (59999999 : Int32).toInt = 59999999 by decide) (fun c14 => ?_) (fun c14 => ?_)
    · refine v_ldc C dX9_spanEnd_42 kX9_178 ?_
      exact v_ret C dX9_spanEnd_44 rfl rfl ⟨(ti_any 59999999), rfl⟩
    · refine v_iload_n C 3 dX9_spanEnd_38 rfl rfl ?_
      refine v_goto C 44 dX9_spanEnd_39 (by decide) ?_
      exact v_ret C dX9_spanEnd_44 rfl rfl ⟨(ti_any x13), rfl⟩
  · refine v_ldc C dX9_spanEnd_10 kX9_178 ?_
    refine v_goto C 31 dX9_spanEnd_12 (by decide) ?_
    refine v_istore_n (lv' := [(0, .ref (ad 68)), (1, .int x), (2, .int y), (3, .int 59999999)]) C [1, 2, 3, 0] dX9_spanEnd_31 rfl (by decide) rfl ?_
    refine v_iload_n C 3 dX9_spanEnd_32 rfl rfl ?_
    refine v_ldc C dX9_spanEnd_33 kX9_178 ?_
    refine b_icmp_ge C 42 dX9_spanEnd_35 (by decide) (show (59999999 : Int32).toInt = 59999999 by decide) (show (59999999 : Int32).toInt = 59999999 by decide) (fun c15 => ?_) (fun c15 => absurd c15 (by decide))
    refine v_ldc C dX9_spanEnd_42 kX9_178 ?_
    exact v_ret C dX9_spanEnd_44 rfl rfl ⟨(ti_any 59999999), rfl⟩

set_option maxRecDepth 20000 in
theorem t_X9_isWall (l : Launch) (G : Gl) (ad : Nat → Nat) {n : Nat} {ic md : Nat → Int32} {bd : Nat → Int × Int} {E0 E : Nat → va_E} (hJ : JM G ad n ic md bd PR E0 E) (x : Int32) : CtI l G yX9_isWall cX9_isWall 2 .boolean 4 85 (n) ad E [.ref (ad 68), .int x] (fun r E' => (r = 0 ∨ r = 1) ∧ JM G ad n ic md bd PR E0 E') := by
  refine CtI.of (by decide) (Nat.le_of_ble_eq_true rfl) (fun X A C => ?_)
  refine v_sub (lv' := [(0, .ref (ad 68)), (1, .int x)]) [0, 1] rfl ?_
  have hn := hJ.hn
  have hz16 := hJ.2.2.2.2
  refine v_iload_n C 1 dX9_isWall_0 rfl rfl ?_
  refine b_if_lt C 20 dX9_isWall_1 (by decide) (rfl : Int32.toInt x = _) (fun c1 => ?_) (fun c1 => ?_)
  · refine v_iconst (v := 0) C dX9_isWall_20 (by decide) ?_
    exact v_ret C dX9_isWall_21 rfl rfl ⟨Or.inl rfl, hJ⟩
  · refine v_aload_n C 0 dX9_isWall_4 rfl rfl ?_
    refine v_iload_n C 1 dX9_isWall_5 rfl rfl ?_
    refine v_sipush (v := 1440) C dX9_isWall_6 (by decide) ?_
    refine v_idiv C dX9_isWall_9 (by decide) ?_
    have := ti_any x
    refine v_top (fun x2 ex2 => ?_)
    have hx2 : x2.toInt = (x.toInt / 1440) := by rw [ex2]; exact ti_div (rfl : Int32.toInt x = _) (show (1440 : Int32).toInt = 1440 by decide) (by omega) (by omega)
    obtain ⟨im7, hM7, hb7⟩ := hJ.1
    have hq7 := hM7.b
    refine v_cVi C dX9_isWall_10 lX9_141 mX9_isDay 68 (by omega) hM7.2.2.1 (by decide) rfl (d_isDay l G _ ad _ hn hM7 x2) ⟨by decide, by decide⟩ rfl (Nat.le_of_ble_eq_true rfl) ⟨Nat.zero_le _, Nat.zero_le _⟩ (fun r3 E4 hq5 => ?_)
    obtain ⟨hq5, hq5m⟩ := hq5
    have hJ6 := hJ.mr hb7 (by unfold PR; omega) (by unfold PR; omega) hq5m
    have hcyr3 := cal_y hM7.2.1
    rcases hq5 with ⟨rfl, hq5⟩ | ⟨rfl, hq5⟩
    · refine b_if_eq C 20 dX9_isWall_13 (by decide) (show (1 : Int32).toInt = 1 by decide) (fun c8 => absurd c8 (by decide)) (fun c8 => ?_)
      refine v_iconst (v := 1) C dX9_isWall_16 (by decide) ?_
      refine v_goto C 21 dX9_isWall_17 (by decide) ?_
      exact v_ret C dX9_isWall_21 rfl rfl ⟨Or.inr rfl, hJ6⟩
    · refine b_if_eq C 20 dX9_isWall_13 (by decide) (show (0 : Int32).toInt = 0 by decide) (fun c9 => ?_) (fun c9 => absurd c9 (by decide))
      refine v_iconst (v := 0) C dX9_isWall_20 (by decide) ?_
      exact v_ret C dX9_isWall_21 rfl rfl ⟨Or.inl rfl, hJ6⟩

set_option maxRecDepth 20000 in
theorem t_X9_changes (l : Launch) (G : Gl) (ad : Nat → Nat) {n : Nat} {ic md : Nat → Int32} {bd : Nat → Int × Int} {E0 E : Nat → va_E} (hJ : JM G ad n ic md bd PR E0 E) (x : Int32) : CtI l G yX9_changes cX9_changes 2 .int 4 96 (n) ad E [.ref (ad 68), .int x] (fun r E' => ((-1 : Int) ≤ r.toInt ∧ r.toInt ≤ 800) ∧ JM G ad n ic md bd PR E0 E') := by
  refine CtI.of (by decide) (Nat.le_of_ble_eq_true rfl) (fun X A C => ?_)
  refine v_sub (lv' := [(0, .ref (ad 68)), (1, .int x)]) [0, 1] rfl ?_
  have hn := hJ.hn
  have hz16 := hJ.2.2.2.2
  refine v_aload_n C 0 dX9_changes_0 rfl rfl ?_
  refine v_iload_n C 1 dX9_changes_1 rfl rfl ?_
  obtain ⟨im3, hM3, hb3⟩ := hJ.1
  have hq3 := hM3.b
  refine v_cVp C dX9_changes_2 lX9_162 mX9_isZone 68 (by omega) hM3.2.2.1 (by decide) rfl (t_X9_isZone l G ad hJ x) ⟨by decide, by decide⟩ rfl (Nat.le_of_ble_eq_true rfl) ⟨Nat.zero_le _, Nat.zero_le _⟩ (fun r1 hp2 => ?_)
  rcases hp2 with ⟨rfl, hp2⟩ | ⟨rfl, hp2⟩
  · refine b_if_ne C 10 dX9_changes_5 (by decide) (show (1 : Int32).toInt = 1 by decide) (fun c4 => ?_) (fun c4 => absurd c4 (by decide))
    refine v_aload_n C 0 dX9_changes_10 rfl rfl ?_
    refine v_iload_n C 1 dX9_changes_11 rfl rfl ?_
    refine v_cVv C dX9_changes_12 lX9_171 mX9_find 68 (by omega) hM3.2.2.1 (by decide) rfl (t_X9_find l G ad hJ x (show (0 : Int) ≤ Int32.toInt x ∧ Int32.toInt x ≤ 4 by omega)) ⟨by decide, by decide⟩ rfl (Nat.le_of_ble_eq_true rfl) ⟨Nat.zero_le _, Nat.zero_le _⟩ (fun E6 hJ8 => ?_)
    refine v_aload_n C 0 dX9_changes_15 rfl rfl ?_
    obtain ⟨im9, hM9, hb9⟩ := hJ8.1
    have hq9 := hM9.b
    refine v_getr C 68 dX9_changes_16 fX9_67 (by omega) hM9.2.2.1 rfl rfl ?_
    refine v_iload_n C 1 dX9_changes_19 rfl rfl ?_
    obtain ⟨f11, hE11, hb11⟩ := hJ8.2.1.getA (b := 82) (by omega) rfl
    refine v_ald (v := f11 (x.toInt).toNat) C 82 dX9_changes_20 (by omega) hE11 (ti_in (rfl : Int32.toInt x = _) (by omega) (by omega)) (by rw [ti_cl (rfl : Int32.toInt x = _)]) ?_
    refine v_top (fun x12 ex12 => ?_)
    have hx12 : (0 : Int) ≤ x12.toInt ∧ x12.toInt ≤ 800 := by rw [ex12]; exact hb11 _
    exact v_ret C dX9_changes_21 rfl rfl ⟨(show (-1 : Int) ≤ Int32.toInt x12 ∧ Int32.toInt x12 ≤ 800 by omega), hJ8⟩
  · refine b_if_ne C 10 dX9_changes_5 (by decide) (show (0 : Int32).toInt = 0 by decide) (fun c13 => absurd c13 (by decide)) (fun c13 => ?_)
    refine v_iconst (v := (-1)) C dX9_changes_8 (by decide) ?_
    exact v_ret C dX9_changes_9 rfl rfl ⟨(show (-1 : Int) ≤ Int32.toInt (-1) ∧ Int32.toInt (-1) ≤ 800 by decide), hJ⟩

set_option maxRecDepth 20000 in
theorem t_X9_change (l : Launch) (G : Gl) (ad : Nat → Nat) {n : Nat} {ic md : Nat → Int32} {bd : Nat → Int × Int} {E0 E : Nat → va_E} (hJ : JM G ad n ic md bd PR E0 E) (x : Int32) (y : Int32) : CtI l G yX9_change cX9_change 3 .int 5 117 (n) ad E [.ref (ad 68), .int x, .int y] (fun r E' => ((-2147483648 : Int) ≤ r.toInt ∧ r.toInt ≤ 2147483647) ∧ JM G ad n ic md bd PR E0 E') := by
  refine CtI.of (by decide) (Nat.le_of_ble_eq_true rfl) (fun X A C => ?_)
  refine v_sub (lv' := [(0, .ref (ad 68)), (1, .int x), (2, .int y)]) [0, 1, 2] rfl ?_
  have hn := hJ.hn
  have hz16 := hJ.2.2.2.2
  refine v_aload_n C 0 dX9_change_0 rfl rfl ?_
  refine v_iload_n C 1 dX9_change_1 rfl rfl ?_
  obtain ⟨im3, hM3, hb3⟩ := hJ.1
  have hq3 := hM3.b
  refine v_cVp C dX9_change_2 lX9_162 mX9_isZone 68 (by omega) hM3.2.2.1 (by decide) rfl (t_X9_isZone l G ad hJ x) ⟨by decide, by decide⟩ rfl (Nat.le_of_ble_eq_true rfl) ⟨Nat.zero_le _, Nat.zero_le _⟩ (fun r1 hp2 => ?_)
  rcases hp2 with ⟨rfl, hp2⟩ | ⟨rfl, hp2⟩
  · refine b_if_eq C 38 dX9_change_5 (by decide) (show (1 : Int32).toInt = 1 by decide) (fun c4 => absurd c4 (by decide)) (fun c4 => ?_)
    refine v_iload_n C 2 dX9_change_8 rfl rfl ?_
    refine b_if_lt C 38 dX9_change_9 (by decide) (rfl : Int32.toInt y = _) (fun c5 => ?_) (fun c5 => ?_)
    · refine v_iconst (v := (-1)) C dX9_change_38 (by decide) ?_
      exact v_ret C dX9_change_39 rfl rfl ⟨(ti_any (-1)), hJ⟩
    · refine v_iload_n C 2 dX9_change_12 rfl rfl ?_
      refine v_aload_n C 0 dX9_change_13 rfl rfl ?_
      refine v_iload_n C 1 dX9_change_14 rfl rfl ?_
      refine v_cVi C dX9_change_15 lX9_175 mX9_changes 68 (by omega) hM3.2.2.1 (by decide) rfl (t_X9_changes l G ad hJ x) ⟨by decide, by decide⟩ rfl (Nat.le_of_ble_eq_true rfl) ⟨Nat.zero_le _, Nat.zero_le _⟩ (fun r6 E7 hp8 => ?_)
      obtain ⟨hp8, hJ9⟩ := hp8
      refine b_icmp_ge C 38 dX9_change_18 (by decide) (rfl : Int32.toInt y = _) (rfl : Int32.toInt r6 = _) (fun c10 => ?_) (fun c10 => ?_)
      · refine v_iconst (v := (-1)) C dX9_change_38 (by decide) ?_
        exact v_ret C dX9_change_39 rfl rfl ⟨(ti_any (-1)), hJ9⟩
      · refine v_aload_n C 0 dX9_change_21 rfl rfl ?_
        obtain ⟨im11, hM11, hb11⟩ := hJ9.1
        have hq11 := hM11.b
        refine v_getr C 68 dX9_change_22 fX9_61 (by omega) hM11.2.2.1 rfl rfl ?_
        refine v_sipush (v := 801) C dX9_change_25 (by decide) ?_
        refine v_iload_n C 1 dX9_change_28 rfl rfl ?_
        refine v_imul C dX9_change_29 ?_
        refine v_top (fun x12 ex12 => ?_)
        have hx12 : x12.toInt = (801 * x.toInt) := by rw [ex12]; exact ti_mul (show (801 : Int32).toInt = 801 by decide) (rfl : Int32.toInt x = _) (by omega) (by omega)
        refine v_iconst (v := 1) C dX9_change_30 (by decide) ?_
        refine v_iadd C dX9_change_31 ?_
        refine v_top (fun x13 ex13 => ?_)
        have hx13 : x13.toInt = ((801 * x.toInt) + 1) := by rw [ex13]; exact ti_add hx12 (show (1 : Int32).toInt = 1 by decide) (by omega) (by omega)
        refine v_iload_n C 2 dX9_change_32 rfl rfl ?_
        refine v_iadd C dX9_change_33 ?_
        refine v_top (fun x14 ex14 => ?_)
        have hx14 : x14.toInt = (((801 * x.toInt) + 1) + y.toInt) := by rw [ex14]; exact ti_add hx13 (rfl : Int32.toInt y = _) (by omega) (by omega)
        obtain ⟨f16, hE16, hb16⟩ := hJ9.2.1.getA (b := 80) (by omega) rfl
        refine v_ald (v := f16 ((((801 * x.toInt) + 1) + y.toInt)).toNat) C 80 dX9_change_34 (by omega) hE16 (ti_in hx14 (by omega) (by omega)) (by rw [ti_cl hx14]) ?_
        refine v_top (fun x17 _ => ?_)
        refine v_goto C 39 dX9_change_35 (by decide) ?_
        exact v_ret C dX9_change_39 rfl rfl ⟨(ti_any x17), hJ9⟩
  · refine b_if_eq C 38 dX9_change_5 (by decide) (show (0 : Int32).toInt = 0 by decide) (fun c18 => ?_) (fun c18 => absurd c18 (by decide))
    refine v_iconst (v := (-1)) C dX9_change_38 (by decide) ?_
    exact v_ret C dX9_change_39 rfl rfl ⟨(ti_any (-1)), hJ⟩

set_option maxRecDepth 20000 in
theorem t_X9_offsetAt (l : Launch) (G : Gl) (ad : Nat → Nat) {n : Nat} {ic md : Nat → Int32} {bd : Nat → Int × Int} {E0 E : Nat → va_E} (hJ : JM G ad n ic md bd PR E0 E) (x : Int32) (hx : (0 : Int) ≤ x.toInt ∧ x.toInt ≤ 4) (y : Int32) : CtI l G yX9_offsetAt cX9_offsetAt 6 .int 4 96 (n) ad E [.ref (ad 68), .int x, .int y] (fun r E' => ((-2147483648 : Int) ≤ r.toInt ∧ r.toInt ≤ 2147483647) ∧ JM G ad n ic md bd PR E0 E') := by
  refine CtI.of (by decide) (Nat.le_of_ble_eq_true rfl) (fun X A C => ?_)
  refine v_sub (lv' := [(0, .ref (ad 68)), (1, .int x), (2, .int y)]) [0, 1, 2] rfl ?_
  have hn := hJ.hn
  have hz16 := hJ.2.2.2.2
  refine v_aload_n C 0 dX9_offsetAt_0 rfl rfl ?_
  refine v_iload_n C 1 dX9_offsetAt_1 rfl rfl ?_
  obtain ⟨im5, hM5, hb5⟩ := hJ.1
  have hq5 := hM5.b
  refine v_cVv C dX9_offsetAt_2 lX9_171 mX9_find 68 (by omega) hM5.2.2.1 (by decide) rfl (t_X9_find l G ad hJ x (show (0 : Int) ≤ Int32.toInt x ∧ Int32.toInt x ≤ 4 by omega)) ⟨by decide, by decide⟩ rfl (Nat.le_of_ble_eq_true rfl) ⟨Nat.zero_le _, Nat.zero_le _⟩ (fun E2 hJ4 => ?_)
  refine v_iconst (v := 0) C dX9_offsetAt_5 (by decide) ?_
  refine v_istore_n (lv' := [(0, .ref (ad 68)), (1, .int x), (2, .int y), (3, .int 0)]) C [1, 2, 3, 0] dX9_offsetAt_6 rfl (by decide) rfl ?_
  refine v_aload_n C 0 dX9_offsetAt_7 rfl rfl ?_
  obtain ⟨im6, hM6, hb6⟩ := hJ4.1
  have hq6 := hM6.b
  refine v_getr C 68 dX9_offsetAt_8 fX9_67 (by omega) hM6.2.2.1 rfl rfl ?_
  refine v_iload_n C 1 dX9_offsetAt_11 rfl rfl ?_
  obtain ⟨f8, hE8, hb8⟩ := hJ4.2.1.getA (b := 82) (by omega) rfl
  refine v_ald (v := f8 (x.toInt).toNat) C 82 dX9_offsetAt_12 (by omega) hE8 (ti_in (rfl : Int32.toInt x = _) (by omega) (by omega)) (by rw [ti_cl (rfl : Int32.toInt x = _)]) ?_
  refine v_top (fun x9 ex9 => ?_)
  have hx9 : (0 : Int) ≤ x9.toInt ∧ x9.toInt ≤ 800 := by rw [ex9]; exact hb8 _
  refine v_istore (lv' := [(0, .ref (ad 68)), (1, .int x), (2, .int y), (3, .int 0), (4, .int x9)]) C [1, 2, 3, 4, 0] dX9_offsetAt_13 (by decide) rfl ?_
  have LP10 : ∀ (t : Nat) (E14 : Nat → va_E) (y11 : Int32) (y12 : Int32), JM G ad n ic md bd PR E0 E14 → ((0 : Int) ≤ y11.toInt ∧ y11.toInt ≤ 800) → ((0 : Int) ≤ y12.toInt ∧ y12.toInt ≤ 800) → (y11.toInt ≤ y12.toInt) → y12.toInt - y11.toInt < (t : Int) → V X G A 6 (QI X G A (n) ad (fun r E' => ((-2147483648 : Int) ≤ r.toInt ∧ r.toInt ≤ 2147483647) ∧ JM G ad n ic md bd PR E0 E')) n ad 0 0 E14 15 [(0, .ref (ad 68)), (1, .int x), (2, .int y), (3, .int y11), (4, .int y12)] [] := by
    intro t18
    induction t18 with
    | zero => intro E14 y11 y12 hJ15 hy11 hy12 hq13 hm17; exfalso; omega
    | succ t18 ih16 =>
      intro E14 y11 y12 hJ15 hy11 hy12 hq13 hm17
      refine v_iload_n C 3 dX9_offsetAt_15 rfl rfl ?_
      refine v_iload C 4 dX9_offsetAt_16 rfl ?_
      refine b_icmp_ge C 63 dX9_offsetAt_18 (by decide) (rfl : Int32.toInt y11 = _) (rfl : Int32.toInt y12 = _) (fun c19 => ?_) (fun c19 => ?_)
      · refine v_aload_n C 0 dX9_offsetAt_63 rfl rfl ?_
        obtain ⟨im20, hM20, hb20⟩ := hJ15.1
        have hq20 := hM20.b
        refine v_getr C 68 dX9_offsetAt_64 fX9_64 (by omega) hM20.2.2.1 rfl rfl ?_
        refine v_sipush (v := 801) C dX9_offsetAt_67 (by decide) ?_
        refine v_iload_n C 1 dX9_offsetAt_70 rfl rfl ?_
        refine v_imul C dX9_offsetAt_71 ?_
        refine v_top (fun x21 ex21 => ?_)
        have hx21 : x21.toInt = (801 * x.toInt) := by rw [ex21]; exact ti_mul (show (801 : Int32).toInt = 801 by decide) (rfl : Int32.toInt x = _) (by omega) (by omega)
        refine v_iload_n C 3 dX9_offsetAt_72 rfl rfl ?_
        refine v_iadd C dX9_offsetAt_73 ?_
        refine v_top (fun x22 ex22 => ?_)
        have hx22 : x22.toInt = ((801 * x.toInt) + y11.toInt) := by rw [ex22]; exact ti_add hx21 (rfl : Int32.toInt y11 = _) (by omega) (by omega)
        obtain ⟨f24, hE24, hb24⟩ := hJ15.2.1.getA (b := 81) (by omega) rfl
        refine v_ald (v := f24 (((801 * x.toInt) + y11.toInt)).toNat) C 81 dX9_offsetAt_74 (by omega) hE24 (ti_in hx22 (by omega) (by omega)) (by rw [ti_cl hx22]) ?_
        refine v_top (fun x25 _ => ?_)
        exact v_ret C dX9_offsetAt_75 rfl rfl ⟨(ti_any x25), hJ15⟩
      · refine v_iload_n C 3 dX9_offsetAt_21 rfl rfl ?_
        refine v_iload C 4 dX9_offsetAt_22 rfl ?_
        refine v_iadd C dX9_offsetAt_24 ?_
        refine v_top (fun x26 ex26 => ?_)
        have hx26 : x26.toInt = (y11.toInt + y12.toInt) := by rw [ex26]; exact ti_add (rfl : Int32.toInt y11 = _) (rfl : Int32.toInt y12 = _) (by omega) (by omega)
        refine v_iconst (v := 1) C dX9_offsetAt_25 (by decide) ?_
        refine v_iadd C dX9_offsetAt_26 ?_
        refine v_top (fun x27 ex27 => ?_)
        have hx27 : x27.toInt = ((y11.toInt + y12.toInt) + 1) := by rw [ex27]; exact ti_add hx26 (show (1 : Int32).toInt = 1 by decide) (by omega) (by omega)
        refine v_iconst (v := 2) C dX9_offsetAt_27 (by decide) ?_
        refine v_idiv C dX9_offsetAt_28 (by decide) ?_
        refine v_top (fun x28 ex28 => ?_)
        have hx28 : x28.toInt = (((y11.toInt + y12.toInt) + 1) / 2) := by rw [ex28]; exact ti_div hx27 (show (2 : Int32).toInt = 2 by decide) (by omega) (by omega)
        refine v_istore (lv' := [(0, .ref (ad 68)), (1, .int x), (2, .int y), (3, .int y11), (4, .int y12), (5, .int x28)]) C [1, 2, 3, 4, 5, 0] dX9_offsetAt_29 (by decide) rfl ?_
        refine v_aload_n C 0 dX9_offsetAt_31 rfl rfl ?_
        obtain ⟨im29, hM29, hb29⟩ := hJ15.1
        have hq29 := hM29.b
        refine v_getr C 68 dX9_offsetAt_32 fX9_61 (by omega) hM29.2.2.1 rfl rfl ?_
        refine v_sipush (v := 801) C dX9_offsetAt_35 (by decide) ?_
        refine v_iload_n C 1 dX9_offsetAt_38 rfl rfl ?_
        refine v_imul C dX9_offsetAt_39 ?_
        refine v_top (fun x30 ex30 => ?_)
        have hx30 : x30.toInt = (801 * x.toInt) := by rw [ex30]; exact ti_mul (show (801 : Int32).toInt = 801 by decide) (rfl : Int32.toInt x = _) (by omega) (by omega)
        refine v_iload C 5 dX9_offsetAt_40 rfl ?_
        refine v_iadd C dX9_offsetAt_42 ?_
        refine v_top (fun x31 ex31 => ?_)
        have hx31 : x31.toInt = ((801 * x.toInt) + (((y11.toInt + y12.toInt) + 1) / 2)) := by rw [ex31]; exact ti_add hx30 hx28 (by omega) (by omega)
        obtain ⟨f33, hE33, hb33⟩ := hJ15.2.1.getA (b := 80) (by omega) rfl
        refine v_ald (v := f33 (((801 * x.toInt) + (((y11.toInt + y12.toInt) + 1) / 2))).toNat) C 80 dX9_offsetAt_43 (by omega) hE33 (ti_in hx31 (by omega) (by omega)) (by rw [ti_cl hx31]) ?_
        refine v_top (fun x34 _ => ?_)
        refine v_iload_n C 2 dX9_offsetAt_44 rfl rfl ?_
        refine b_icmp_gt C 54 dX9_offsetAt_45 (by decide) (rfl : Int32.toInt x34 = _) (rfl : Int32.toInt y = _) (fun c35 => ?_) (fun c35 => ?_)
        · refine v_iload C 5 dX9_offsetAt_54 rfl ?_
          refine v_iconst (v := 1) C dX9_offsetAt_56 (by decide) ?_
          refine v_isub C dX9_offsetAt_57 ?_
          refine v_top (fun x36 ex36 => ?_)
          have hx36 : x36.toInt = ((((y11.toInt + y12.toInt) + 1) / 2) - 1) := by rw [ex36]; exact ti_sub hx28 (show (1 : Int32).toInt = 1 by decide) (by omega) (by omega)
          refine v_istore (lv' := [(0, .ref (ad 68)), (1, .int x), (2, .int y), (3, .int y11), (4, .int x36), (5, .int x28)]) C [1, 2, 3, 4, 0, 5] dX9_offsetAt_58 (by decide) rfl ?_
          refine v_goto C 15 dX9_offsetAt_60 (by decide) ?_
          refine v_sub (lv' := [(0, .ref (ad 68)), (1, .int x), (2, .int y), (3, .int y11), (4, .int x36)]) [0, 1, 2, 3, 4] rfl ?_
          exact ih16 _ y11 x36 hJ15 (by have := hx36; omega) (by have := hx36; omega) (by have := hx36; omega) (by have := hx36; omega)
        · refine v_iload C 5 dX9_offsetAt_48 rfl ?_
          refine v_istore_n (lv' := [(0, .ref (ad 68)), (1, .int x), (2, .int y), (3, .int x28), (4, .int y12), (5, .int x28)]) C [1, 2, 3, 0, 4, 5] dX9_offsetAt_50 rfl (by decide) rfl ?_
          refine v_goto C 60 dX9_offsetAt_51 (by decide) ?_
          refine v_goto C 15 dX9_offsetAt_60 (by decide) ?_
          refine v_sub (lv' := [(0, .ref (ad 68)), (1, .int x), (2, .int y), (3, .int x28), (4, .int y12)]) [0, 1, 2, 3, 4] rfl ?_
          exact ih16 _ x28 y12 hJ15 (by have := hx28; omega) (by have := hx28; omega) (by have := hx28; omega) (by have := hx28; omega)
  exact LP10 100000 _ 0 x9 hJ4 (by have := (show (0 : Int32).toInt = 0 by decide); omega) (by have := (show (0 : Int32).toInt = 0 by decide); omega) (by have := (show (0 : Int32).toInt = 0 by decide); omega) (by have := (show (0 : Int32).toInt = 0 by decide); omega)

set_option maxRecDepth 20000 in
theorem t_X9_offset (l : Launch) (G : Gl) (ad : Nat → Nat) {n : Nat} {ic md : Nat → Int32} {bd : Nat → Int × Int} {E0 E : Nat → va_E} (hJ : JM G ad n ic md bd PR E0 E) (x : Int32) (y : Int32) : CtI l G yX9_offset cX9_offset 3 .int 5 121 (n) ad E [.ref (ad 68), .int x, .int y] (fun r E' => ((-2147483648 : Int) ≤ r.toInt ∧ r.toInt ≤ 2147483647) ∧ JM G ad n ic md bd PR E0 E') := by
  refine CtI.of (by decide) (Nat.le_of_ble_eq_true rfl) (fun X A C => ?_)
  refine v_sub (lv' := [(0, .ref (ad 68)), (1, .int x), (2, .int y)]) [0, 1, 2] rfl ?_
  have hn := hJ.hn
  have hz16 := hJ.2.2.2.2
  refine v_aload_n C 0 dX9_offset_0 rfl rfl ?_
  refine v_iload_n C 1 dX9_offset_1 rfl rfl ?_
  obtain ⟨im3, hM3, hb3⟩ := hJ.1
  have hq3 := hM3.b
  refine v_cVp C dX9_offset_2 lX9_162 mX9_isZone 68 (by omega) hM3.2.2.1 (by decide) rfl (t_X9_isZone l G ad hJ x) ⟨by decide, by decide⟩ rfl (Nat.le_of_ble_eq_true rfl) ⟨Nat.zero_le _, Nat.zero_le _⟩ (fun r1 hp2 => ?_)
  rcases hp2 with ⟨rfl, hp2⟩ | ⟨rfl, hp2⟩
  · refine b_if_eq C 24 dX9_offset_5 (by decide) (show (1 : Int32).toInt = 1 by decide) (fun c4 => absurd c4 (by decide)) (fun c4 => ?_)
    refine v_iload_n C 2 dX9_offset_8 rfl rfl ?_
    refine v_cSp C dX9_offset_9 lX9_179 mX9_isMoment (t_X9_isMoment l G ad hJ y) ⟨by decide, by decide⟩ rfl (Nat.le_of_ble_eq_true rfl) ⟨Nat.zero_le _, Nat.zero_le _⟩ (fun r5 hp6 => ?_)
    rcases hp6 with ⟨rfl, hp6⟩ | ⟨rfl, hp6⟩
    · refine b_if_eq C 24 dX9_offset_12 (by decide) (show (1 : Int32).toInt = 1 by decide) (fun c7 => absurd c7 (by decide)) (fun c7 => ?_)
      refine v_aload_n C 0 dX9_offset_15 rfl rfl ?_
      refine v_iload_n C 1 dX9_offset_16 rfl rfl ?_
      refine v_iload_n C 2 dX9_offset_17 rfl rfl ?_
      refine v_cVi C dX9_offset_18 lX9_182 mX9_offsetAt 68 (by omega) hM3.2.2.1 (by decide) rfl (t_X9_offsetAt l G ad hJ x (show (0 : Int) ≤ Int32.toInt x ∧ Int32.toInt x ≤ 4 by omega) y) ⟨by decide, by decide⟩ rfl (Nat.le_of_ble_eq_true rfl) ⟨Nat.zero_le _, Nat.zero_le _⟩ (fun r8 E9 hp10 => ?_)
      obtain ⟨hp10, hJ11⟩ := hp10
      refine v_goto C 27 dX9_offset_21 (by decide) ?_
      exact v_ret C dX9_offset_27 rfl rfl ⟨(ti_any r8), hJ11⟩
    · refine b_if_eq C 24 dX9_offset_12 (by decide) (show (0 : Int32).toInt = 0 by decide) (fun c12 => ?_) (fun c12 => absurd c12 (by decide))
      refine v_sipush (v := (-9999)) C dX9_offset_24 (by decide) ?_
      exact v_ret C dX9_offset_27 rfl rfl ⟨(ti_any (-9999)), hJ⟩
  · refine b_if_eq C 24 dX9_offset_5 (by decide) (show (0 : Int32).toInt = 0 by decide) (fun c13 => ?_) (fun c13 => absurd c13 (by decide))
    refine v_sipush (v := (-9999)) C dX9_offset_24 (by decide) ?_
    exact v_ret C dX9_offset_27 rfl rfl ⟨(ti_any (-9999)), hJ⟩

set_option maxRecDepth 20000 in
theorem t_X9_wall (l : Launch) (G : Gl) (ad : Nat → Nat) {n : Nat} {ic md : Nat → Int32} {bd : Nat → Int × Int} {E0 E : Nat → va_E} (hJ : JM G ad n ic md bd PR E0 E) (x : Int32) (y : Int32) : CtI l G yX9_wall cX9_wall 4 .int 5 121 (n) ad E [.ref (ad 68), .int x, .int y] (fun r E' => ((-2147483648 : Int) ≤ r.toInt ∧ r.toInt ≤ 2147483647) ∧ JM G ad n ic md bd PR E0 E') := by
  refine CtI.of (by decide) (Nat.le_of_ble_eq_true rfl) (fun X A C => ?_)
  refine v_sub (lv' := [(0, .ref (ad 68)), (1, .int x), (2, .int y)]) [0, 1, 2] rfl ?_
  have hn := hJ.hn
  have hz16 := hJ.2.2.2.2
  refine v_aload_n C 0 dX9_wall_0 rfl rfl ?_
  refine v_iload_n C 1 dX9_wall_1 rfl rfl ?_
  obtain ⟨im3, hM3, hb3⟩ := hJ.1
  have hq3 := hM3.b
  refine v_cVp C dX9_wall_2 lX9_162 mX9_isZone 68 (by omega) hM3.2.2.1 (by decide) rfl (t_X9_isZone l G ad hJ x) ⟨by decide, by decide⟩ rfl (Nat.le_of_ble_eq_true rfl) ⟨Nat.zero_le _, Nat.zero_le _⟩ (fun r1 hp2 => ?_)
  rcases hp2 with ⟨rfl, hp2⟩ | ⟨rfl, hp2⟩
  · refine b_if_eq C 15 dX9_wall_5 (by decide) (show (1 : Int32).toInt = 1 by decide) (fun c4 => absurd c4 (by decide)) (fun c4 => ?_)
    refine v_iload_n C 2 dX9_wall_8 rfl rfl ?_
    refine v_cSp C dX9_wall_9 lX9_179 mX9_isMoment (t_X9_isMoment l G ad hJ y) ⟨by decide, by decide⟩ rfl (Nat.le_of_ble_eq_true rfl) ⟨Nat.zero_le _, Nat.zero_le _⟩ (fun r5 hp6 => ?_)
    rcases hp6 with ⟨rfl, hp6⟩ | ⟨rfl, hp6⟩
    · refine b_if_ne C 17 dX9_wall_12 (by decide) (show (1 : Int32).toInt = 1 by decide) (fun c7 => ?_) (fun c7 => absurd c7 (by decide))
      refine v_iload_n C 2 dX9_wall_17 rfl rfl ?_
      refine v_aload_n C 0 dX9_wall_18 rfl rfl ?_
      refine v_iload_n C 1 dX9_wall_19 rfl rfl ?_
      refine v_iload_n C 2 dX9_wall_20 rfl rfl ?_
      refine v_cVi C dX9_wall_21 lX9_182 mX9_offsetAt 68 (by omega) hM3.2.2.1 (by decide) rfl (t_X9_offsetAt l G ad hJ x (show (0 : Int) ≤ Int32.toInt x ∧ Int32.toInt x ≤ 4 by omega) y) ⟨by decide, by decide⟩ rfl (Nat.le_of_ble_eq_true rfl) ⟨Nat.zero_le _, Nat.zero_le _⟩ (fun r8 E9 hp10 => ?_)
      obtain ⟨hp10, hJ11⟩ := hp10
      refine v_iadd C dX9_wall_24 ?_
      refine v_top (fun x12 _ => ?_)
      refine v_istore_n (lv' := [(0, .ref (ad 68)), (1, .int x), (2, .int y), (3, .int x12)]) C [1, 2, 3, 0] dX9_wall_25 rfl (by decide) rfl ?_
      refine v_aload_n C 0 dX9_wall_26 rfl rfl ?_
      refine v_iload_n C 3 dX9_wall_27 rfl rfl ?_
      obtain ⟨im17, hM17, hb17⟩ := hJ11.1
      have hq17 := hM17.b
      refine v_cVi C dX9_wall_28 lX9_185 mX9_isWall 68 (by omega) hM17.2.2.1 (by decide) rfl (t_X9_isWall l G ad hJ11 x12) ⟨by decide, by decide⟩ rfl (Nat.le_of_ble_eq_true rfl) ⟨Nat.zero_le _, Nat.zero_le _⟩ (fun r13 E14 hp15 => ?_)
      obtain ⟨hp15, hJ16⟩ := hp15
      rcases hp15 with rfl | rfl
      · refine b_if_eq C 38 dX9_wall_31 (by decide) (show (0 : Int32).toInt = 0 by decide) (fun c18 => ?_) (fun c18 => absurd c18 (by decide))
        refine v_bipush (v := (-6)) C dX9_wall_38 (by decide) ?_
        exact v_ret C dX9_wall_40 rfl rfl ⟨(ti_any (-6)), hJ16⟩
      · refine b_if_eq C 38 dX9_wall_31 (by decide) (show (1 : Int32).toInt = 1 by decide) (fun c19 => absurd c19 (by decide)) (fun c19 => ?_)
        refine v_iload_n C 3 dX9_wall_34 rfl rfl ?_
        refine v_goto C 40 dX9_wall_35 (by decide) ?_
        exact v_ret C dX9_wall_40 rfl rfl ⟨(ti_any x12), hJ16⟩
    · refine b_if_ne C 17 dX9_wall_12 (by decide) (show (0 : Int32).toInt = 0 by decide) (fun c20 => absurd c20 (by decide)) (fun c20 => ?_)
      refine v_iconst (v := (-1)) C dX9_wall_15 (by decide) ?_
      exact v_ret C dX9_wall_16 rfl rfl ⟨(ti_any (-1)), hJ⟩
  · refine b_if_eq C 15 dX9_wall_5 (by decide) (show (0 : Int32).toInt = 0 by decide) (fun c21 => ?_) (fun c21 => absurd c21 (by decide))
    refine v_iconst (v := (-1)) C dX9_wall_15 (by decide) ?_
    exact v_ret C dX9_wall_16 rfl rfl ⟨(ti_any (-1)), hJ⟩

set_option maxRecDepth 20000 in
theorem t_X9_momentOf (l : Launch) (G : Gl) (ad : Nat → Nat) {n : Nat} {ic md : Nat → Int32} {bd : Nat → Int × Int} {E0 E : Nat → va_E} (hJ : JM G ad n ic md bd PR E0 E) (x : Int32) (hx : (0 : Int) ≤ x.toInt ∧ x.toInt ≤ 4) (y : Int32) (z : Int32) : CtI l G yX9_momentOf cX9_momentOf 7 .int 4 96 (n) ad E [.ref (ad 68), .int x, .int y, .int z] (fun r E' => ((-2147483648 : Int) ≤ r.toInt ∧ r.toInt ≤ 2147483647) ∧ JM G ad n ic md bd PR E0 E') := by
  refine CtI.of (by decide) (Nat.le_of_ble_eq_true rfl) (fun X A C => ?_)
  refine v_sub (lv' := [(0, .ref (ad 68)), (1, .int x), (2, .int y), (3, .int z)]) [0, 1, 2, 3] rfl ?_
  have hn := hJ.hn
  have hz16 := hJ.2.2.2.2
  refine v_aload_n C 0 dX9_momentOf_0 rfl rfl ?_
  refine v_iload_n C 1 dX9_momentOf_1 rfl rfl ?_
  obtain ⟨im5, hM5, hb5⟩ := hJ.1
  have hq5 := hM5.b
  refine v_cVv C dX9_momentOf_2 lX9_171 mX9_find 68 (by omega) hM5.2.2.1 (by decide) rfl (t_X9_find l G ad hJ x (show (0 : Int) ≤ Int32.toInt x ∧ Int32.toInt x ≤ 4 by omega)) ⟨by decide, by decide⟩ rfl (Nat.le_of_ble_eq_true rfl) ⟨Nat.zero_le _, Nat.zero_le _⟩ (fun E2 hJ4 => ?_)
  refine v_iconst (v := 0) C dX9_momentOf_5 (by decide) ?_
  refine v_istore (lv' := [(0, .ref (ad 68)), (1, .int x), (2, .int y), (3, .int z), (4, .int 0)]) C [1, 2, 3, 4, 0] dX9_momentOf_6 (by decide) rfl ?_
  refine v_iconst (v := 0) C dX9_momentOf_8 (by decide) ?_
  refine v_istore (lv' := [(0, .ref (ad 68)), (1, .int x), (2, .int y), (3, .int z), (4, .int 0), (5, .int 0)]) C [1, 2, 3, 4, 5, 0] dX9_momentOf_9 (by decide) rfl ?_
  have LP6 : ∀ (t : Nat) (E9 : Nat → va_E) (y7 : Int32) (y8 : Int32), JM G ad n ic md bd PR E0 E9 → ((0 : Int) ≤ y8.toInt ∧ y8.toInt ≤ 801) → 802 - y8.toInt < (t : Int) → V X G A 7 (QI X G A (n) ad (fun r E' => ((-2147483648 : Int) ≤ r.toInt ∧ r.toInt ≤ 2147483647) ∧ JM G ad n ic md bd PR E0 E')) n ad 0 0 E9 11 [(0, .ref (ad 68)), (1, .int x), (2, .int y), (3, .int z), (4, .int y7), (5, .int y8)] [] := by
    intro t13
    induction t13 with
    | zero => intro E9 y7 y8 hJ10 hy8 hm12; exfalso; omega
    | succ t13 ih11 =>
      intro E9 y7 y8 hJ10 hy8 hm12
      refine v_iload C 5 dX9_momentOf_11 rfl ?_
      refine v_aload_n C 0 dX9_momentOf_13 rfl rfl ?_
      obtain ⟨im14, hM14, hb14⟩ := hJ10.1
      have hq14 := hM14.b
      refine v_getr C 68 dX9_momentOf_14 fX9_67 (by omega) hM14.2.2.1 rfl rfl ?_
      refine v_iload_n C 1 dX9_momentOf_17 rfl rfl ?_
      obtain ⟨f16, hE16, hb16⟩ := hJ10.2.1.getA (b := 82) (by omega) rfl
      refine v_ald (v := f16 (x.toInt).toNat) C 82 dX9_momentOf_18 (by omega) hE16 (ti_in (rfl : Int32.toInt x = _) (by omega) (by omega)) (by rw [ti_cl (rfl : Int32.toInt x = _)]) ?_
      refine v_top (fun x17 ex17 => ?_)
      have hx17 : (0 : Int) ≤ x17.toInt ∧ x17.toInt ≤ 800 := by rw [ex17]; exact hb16 _
      refine b_icmp_gt C 87 dX9_momentOf_19 (by decide) (rfl : Int32.toInt y8 = _) (rfl : Int32.toInt x17 = _) (fun c18 => ?_) (fun c18 => ?_)
      · refine v_iload_n C 3 dX9_momentOf_87 rfl rfl ?_
        refine b_if_ge C 96 dX9_momentOf_88 (by decide) (rfl : Int32.toInt z = _) (fun c19 => ?_) (fun c19 => ?_)
        · refine v_iconst (v := (-1)) C dX9_momentOf_96 (by decide) ?_
          exact v_ret C dX9_momentOf_97 rfl rfl ⟨(ti_any (-1)), hJ10⟩
        · refine v_iload C 4 dX9_momentOf_91 rfl ?_
          refine v_goto C 97 dX9_momentOf_93 (by decide) ?_
          exact v_ret C dX9_momentOf_97 rfl rfl ⟨(ti_any y7), hJ10⟩
      · refine v_iload_n C 2 dX9_momentOf_22 rfl rfl ?_
        refine v_aload_n C 0 dX9_momentOf_23 rfl rfl ?_
        refine v_getr C 68 dX9_momentOf_24 fX9_64 (by omega) hM14.2.2.1 rfl rfl ?_
        refine v_sipush (v := 801) C dX9_momentOf_27 (by decide) ?_
        refine v_iload_n C 1 dX9_momentOf_30 rfl rfl ?_
        refine v_imul C dX9_momentOf_31 ?_
        refine v_top (fun x20 ex20 => ?_)
        have hx20 : x20.toInt = (801 * x.toInt) := by rw [ex20]; exact ti_mul (show (801 : Int32).toInt = 801 by decide) (rfl : Int32.toInt x = _) (by omega) (by omega)
        refine v_iload C 5 dX9_momentOf_32 rfl ?_
        refine v_iadd C dX9_momentOf_34 ?_
        refine v_top (fun x21 ex21 => ?_)
        have hx21 : x21.toInt = ((801 * x.toInt) + y8.toInt) := by rw [ex21]; exact ti_add hx20 (rfl : Int32.toInt y8 = _) (by omega) (by omega)
        obtain ⟨f23, hE23, hb23⟩ := hJ10.2.1.getA (b := 81) (by omega) rfl
        refine v_ald (v := f23 (((801 * x.toInt) + y8.toInt)).toNat) C 81 dX9_momentOf_35 (by omega) hE23 (ti_in hx21 (by omega) (by omega)) (by rw [ti_cl hx21]) ?_
        refine v_top (fun x24 _ => ?_)
        refine v_isub C dX9_momentOf_36 ?_
        refine v_top (fun x25 _ => ?_)
        refine v_istore (lv' := [(0, .ref (ad 68)), (1, .int x), (2, .int y), (3, .int z), (4, .int y7), (5, .int y8), (6, .int x25)]) C [1, 2, 3, 4, 5, 6, 0] dX9_momentOf_37 (by decide) rfl ?_
        refine v_iload C 6 dX9_momentOf_39 rfl ?_
        refine v_aload_n C 0 dX9_momentOf_41 rfl rfl ?_
        refine v_getr C 68 dX9_momentOf_42 fX9_61 (by omega) hM14.2.2.1 rfl rfl ?_
        refine v_sipush (v := 801) C dX9_momentOf_45 (by decide) ?_
        refine v_iload_n C 1 dX9_momentOf_48 rfl rfl ?_
        refine v_imul C dX9_momentOf_49 ?_
        refine v_top (fun x26 ex26 => ?_)
        have hx26 : x26.toInt = (801 * x.toInt) := by rw [ex26]; exact ti_mul (show (801 : Int32).toInt = 801 by decide) (rfl : Int32.toInt x = _) (by omega) (by omega)
        refine v_iload C 5 dX9_momentOf_50 rfl ?_
        refine v_iadd C dX9_momentOf_52 ?_
        refine v_top (fun x27 ex27 => ?_)
        have hx27 : x27.toInt = ((801 * x.toInt) + y8.toInt) := by rw [ex27]; exact ti_add hx26 (rfl : Int32.toInt y8 = _) (by omega) (by omega)
        obtain ⟨f29, hE29, hb29⟩ := hJ10.2.1.getA (b := 80) (by omega) rfl
        refine v_ald (v := f29 (((801 * x.toInt) + y8.toInt)).toNat) C 80 dX9_momentOf_53 (by omega) hE29 (ti_in hx27 (by omega) (by omega)) (by rw [ti_cl hx27]) ?_
        refine v_top (fun x30 _ => ?_)
        refine b_icmp_lt C 81 dX9_momentOf_54 (by decide) (rfl : Int32.toInt x25 = _) (rfl : Int32.toInt x30 = _) (fun c31 => ?_) (fun c31 => ?_)
        · obtain ⟨x32, ex32⟩ : ∃ y : Int32, y = y8 + 1 := ⟨_, rfl⟩
          have hx32 : x32.toInt = (y8.toInt + 1) := by rw [ex32]; exact ti_add (rfl : Int32.toInt y8 = _) (show (1 : Int32).toInt = 1 by decide) (by omega) (by omega)
          refine v_iinc (v := x32) (lv' := [(0, .ref (ad 68)), (1, .int x), (2, .int y), (3, .int z), (4, .int y7), (5, .int x32), (6, .int x25)]) C 5 [1, 2, 3, 4, 5, 0, 6] dX9_momentOf_81 rfl (ex32.symm) (by decide) rfl ?_
          refine v_goto C 11 dX9_momentOf_84 (by decide) ?_
          refine v_sub (lv' := [(0, .ref (ad 68)), (1, .int x), (2, .int y), (3, .int z), (4, .int y7), (5, .int x32)]) [0, 1, 2, 3, 4, 5] rfl ?_
          exact ih11 _ y7 x32 hJ10 (by have := ti_any y7; have := hx32; omega) (by have := ti_any y7; have := hx32; omega)
        · refine v_iload C 6 dX9_momentOf_57 rfl ?_
          refine v_aload_n C 0 dX9_momentOf_59 rfl rfl ?_
          refine v_iload_n C 1 dX9_momentOf_60 rfl rfl ?_
          refine v_iload C 5 dX9_momentOf_61 rfl ?_
          refine v_cVp C dX9_momentOf_63 lX9_188 mX9_spanEnd 68 (by omega) hM14.2.2.1 (by decide) rfl (t_X9_spanEnd l G ad hJ10 x (show (0 : Int) ≤ Int32.toInt x ∧ Int32.toInt x ≤ 4 by omega) y8 (show (0 : Int) ≤ Int32.toInt y8 ∧ Int32.toInt y8 ≤ 800 by omega) (fun f hf => by rw [aI_inj (hf.symm.trans hE16), ← ex17]; omega)) ⟨by decide, by decide⟩ rfl (Nat.le_of_ble_eq_true rfl) ⟨Nat.zero_le _, Nat.zero_le _⟩ (fun r33 hp34 => ?_)
          refine b_icmp_gt C 81 dX9_momentOf_66 (by decide) (rfl : Int32.toInt x25 = _) (rfl : Int32.toInt r33 = _) (fun c35 => ?_) (fun c35 => ?_)
          · obtain ⟨x36, ex36⟩ : ∃ y : Int32, y = y8 + 1 := ⟨_, rfl⟩
            have hx36 : x36.toInt = (y8.toInt + 1) := by rw [ex36]; exact ti_add (rfl : Int32.toInt y8 = _) (show (1 : Int32).toInt = 1 by decide) (by omega) (by omega)
            refine v_iinc (v := x36) (lv' := [(0, .ref (ad 68)), (1, .int x), (2, .int y), (3, .int z), (4, .int y7), (5, .int x36), (6, .int x25)]) C 5 [1, 2, 3, 4, 5, 0, 6] dX9_momentOf_81 rfl (ex36.symm) (by decide) rfl ?_
            refine v_goto C 11 dX9_momentOf_84 (by decide) ?_
            refine v_sub (lv' := [(0, .ref (ad 68)), (1, .int x), (2, .int y), (3, .int z), (4, .int y7), (5, .int x36)]) [0, 1, 2, 3, 4, 5] rfl ?_
            exact ih11 _ y7 x36 hJ10 (by have := ti_any y7; have := hx36; omega) (by have := ti_any y7; have := hx36; omega)
          · refine v_iload C 4 dX9_momentOf_69 rfl ?_
            refine v_iload_n C 3 dX9_momentOf_71 rfl rfl ?_
            refine b_icmp_ne C 78 dX9_momentOf_72 (by decide) (rfl : Int32.toInt y7 = _) (rfl : Int32.toInt z = _) (fun c37 => ?_) (fun c37 => ?_)
            · obtain ⟨x38, ex38⟩ : ∃ y : Int32, y = y7 + 1 := ⟨_, rfl⟩
              refine v_iinc (v := x38) (lv' := [(0, .ref (ad 68)), (1, .int x), (2, .int y), (3, .int z), (4, .int x38), (5, .int y8), (6, .int x25)]) C 4 [1, 2, 3, 4, 0, 5, 6] dX9_momentOf_78 rfl (ex38.symm) (by decide) rfl ?_
              obtain ⟨x39, ex39⟩ : ∃ y : Int32, y = y8 + 1 := ⟨_, rfl⟩
              have hx39 : x39.toInt = (y8.toInt + 1) := by rw [ex39]; exact ti_add (rfl : Int32.toInt y8 = _) (show (1 : Int32).toInt = 1 by decide) (by omega) (by omega)
              refine v_iinc (v := x39) (lv' := [(0, .ref (ad 68)), (1, .int x), (2, .int y), (3, .int z), (4, .int x38), (5, .int x39), (6, .int x25)]) C 5 [1, 2, 3, 4, 5, 0, 6] dX9_momentOf_81 rfl (ex39.symm) (by decide) rfl ?_
              refine v_goto C 11 dX9_momentOf_84 (by decide) ?_
              refine v_sub (lv' := [(0, .ref (ad 68)), (1, .int x), (2, .int y), (3, .int z), (4, .int x38), (5, .int x39)]) [0, 1, 2, 3, 4, 5] rfl ?_
              exact ih11 _ x38 x39 hJ10 (by have := ti_any x38; have := hx39; omega) (by have := ti_any x38; have := hx39; omega)
            · refine v_iload C 6 dX9_momentOf_75 rfl ?_
              exact v_ret C dX9_momentOf_77 rfl rfl ⟨(ti_any x25), hJ10⟩
  exact LP6 100000 _ 0 0 hJ4 (by have := (show (0 : Int32).toInt = 0 by decide); omega) (by have := (show (0 : Int32).toInt = 0 by decide); omega)

set_option maxRecDepth 20000 in
theorem t_X9_moments (l : Launch) (G : Gl) (ad : Nat → Nat) {n : Nat} {ic md : Nat → Int32} {bd : Nat → Int × Int} {E0 E : Nat → va_E} (hJ : JM G ad n ic md bd PR E0 E) (x : Int32) (y : Int32) : CtI l G yX9_moments cX9_moments 3 .int 5 122 (n) ad E [.ref (ad 68), .int x, .int y] (fun r E' => ((-2147483648 : Int) ≤ r.toInt ∧ r.toInt ≤ 2147483647) ∧ JM G ad n ic md bd PR E0 E') := by
  refine CtI.of (by decide) (Nat.le_of_ble_eq_true rfl) (fun X A C => ?_)
  refine v_sub (lv' := [(0, .ref (ad 68)), (1, .int x), (2, .int y)]) [0, 1, 2] rfl ?_
  have hn := hJ.hn
  have hz16 := hJ.2.2.2.2
  refine v_aload_n C 0 dX9_moments_0 rfl rfl ?_
  refine v_iload_n C 1 dX9_moments_1 rfl rfl ?_
  obtain ⟨im3, hM3, hb3⟩ := hJ.1
  have hq3 := hM3.b
  refine v_cVp C dX9_moments_2 lX9_162 mX9_isZone 68 (by omega) hM3.2.2.1 (by decide) rfl (t_X9_isZone l G ad hJ x) ⟨by decide, by decide⟩ rfl (Nat.le_of_ble_eq_true rfl) ⟨Nat.zero_le _, Nat.zero_le _⟩ (fun r1 hp2 => ?_)
  rcases hp2 with ⟨rfl, hp2⟩ | ⟨rfl, hp2⟩
  · refine b_if_eq C 26 dX9_moments_5 (by decide) (show (1 : Int32).toInt = 1 by decide) (fun c4 => absurd c4 (by decide)) (fun c4 => ?_)
    refine v_aload_n C 0 dX9_moments_8 rfl rfl ?_
    refine v_iload_n C 2 dX9_moments_9 rfl rfl ?_
    refine v_cVi C dX9_moments_10 lX9_185 mX9_isWall 68 (by omega) hM3.2.2.1 (by decide) rfl (t_X9_isWall l G ad hJ y) ⟨by decide, by decide⟩ rfl (Nat.le_of_ble_eq_true rfl) ⟨Nat.zero_le _, Nat.zero_le _⟩ (fun r5 E6 hp7 => ?_)
    obtain ⟨hp7, hJ8⟩ := hp7
    rcases hp7 with rfl | rfl
    · refine b_if_eq C 26 dX9_moments_13 (by decide) (show (0 : Int32).toInt = 0 by decide) (fun c9 => ?_) (fun c9 => absurd c9 (by decide))
      refine v_iconst (v := (-1)) C dX9_moments_26 (by decide) ?_
      exact v_ret C dX9_moments_27 rfl rfl ⟨(ti_any (-1)), hJ8⟩
    · refine b_if_eq C 26 dX9_moments_13 (by decide) (show (1 : Int32).toInt = 1 by decide) (fun c10 => absurd c10 (by decide)) (fun c10 => ?_)
      refine v_aload_n C 0 dX9_moments_16 rfl rfl ?_
      refine v_iload_n C 1 dX9_moments_17 rfl rfl ?_
      refine v_iload_n C 2 dX9_moments_18 rfl rfl ?_
      refine v_iconst (v := (-1)) C dX9_moments_19 (by decide) ?_
      obtain ⟨im15, hM15, hb15⟩ := hJ8.1
      have hq15 := hM15.b
      refine v_cVi C dX9_moments_20 lX9_191 mX9_momentOf 68 (by omega) hM15.2.2.1 (by decide) rfl (t_X9_momentOf l G ad hJ8 x (show (0 : Int) ≤ Int32.toInt x ∧ Int32.toInt x ≤ 4 by omega) y (-1)) ⟨by decide, by decide⟩ rfl (Nat.le_of_ble_eq_true rfl) ⟨Nat.zero_le _, Nat.zero_le _⟩ (fun r11 E12 hp13 => ?_)
      obtain ⟨hp13, hJ14⟩ := hp13
      refine v_goto C 27 dX9_moments_23 (by decide) ?_
      exact v_ret C dX9_moments_27 rfl rfl ⟨(ti_any r11), hJ14⟩
  · refine b_if_eq C 26 dX9_moments_5 (by decide) (show (0 : Int32).toInt = 0 by decide) (fun c16 => ?_) (fun c16 => absurd c16 (by decide))
    refine v_iconst (v := (-1)) C dX9_moments_26 (by decide) ?_
    exact v_ret C dX9_moments_27 rfl rfl ⟨(ti_any (-1)), hJ⟩

set_option maxRecDepth 20000 in
theorem t_X9_moment (l : Launch) (G : Gl) (ad : Nat → Nat) {n : Nat} {ic md : Nat → Int32} {bd : Nat → Int × Int} {E0 E : Nat → va_E} (hJ : JM G ad n ic md bd PR E0 E) (x : Int32) (y : Int32) (z : Int32) : CtI l G yX9_moment cX9_moment 5 .int 5 122 (n) ad E [.ref (ad 68), .int x, .int y, .int z] (fun r E' => ((-2147483648 : Int) ≤ r.toInt ∧ r.toInt ≤ 2147483647) ∧ JM G ad n ic md bd PR E0 E') := by
  refine CtI.of (by decide) (Nat.le_of_ble_eq_true rfl) (fun X A C => ?_)
  refine v_sub (lv' := [(0, .ref (ad 68)), (1, .int x), (2, .int y), (3, .int z)]) [0, 1, 2, 3] rfl ?_
  have hn := hJ.hn
  have hz16 := hJ.2.2.2.2
  refine v_aload_n C 0 dX9_moment_0 rfl rfl ?_
  refine v_iload_n C 1 dX9_moment_1 rfl rfl ?_
  obtain ⟨im3, hM3, hb3⟩ := hJ.1
  have hq3 := hM3.b
  refine v_cVp C dX9_moment_2 lX9_162 mX9_isZone 68 (by omega) hM3.2.2.1 (by decide) rfl (t_X9_isZone l G ad hJ x) ⟨by decide, by decide⟩ rfl (Nat.le_of_ble_eq_true rfl) ⟨Nat.zero_le _, Nat.zero_le _⟩ (fun r1 hp2 => ?_)
  rcases hp2 with ⟨rfl, hp2⟩ | ⟨rfl, hp2⟩
  · refine b_if_eq C 16 dX9_moment_5 (by decide) (show (1 : Int32).toInt = 1 by decide) (fun c4 => absurd c4 (by decide)) (fun c4 => ?_)
    refine v_aload_n C 0 dX9_moment_8 rfl rfl ?_
    refine v_iload_n C 2 dX9_moment_9 rfl rfl ?_
    refine v_cVi C dX9_moment_10 lX9_185 mX9_isWall 68 (by omega) hM3.2.2.1 (by decide) rfl (t_X9_isWall l G ad hJ y) ⟨by decide, by decide⟩ rfl (Nat.le_of_ble_eq_true rfl) ⟨Nat.zero_le _, Nat.zero_le _⟩ (fun r5 E6 hp7 => ?_)
    obtain ⟨hp7, hJ8⟩ := hp7
    rcases hp7 with rfl | rfl
    · refine b_if_ne C 18 dX9_moment_13 (by decide) (show (0 : Int32).toInt = 0 by decide) (fun c9 => absurd c9 (by decide)) (fun c9 => ?_)
      refine v_iconst (v := (-1)) C dX9_moment_16 (by decide) ?_
      exact v_ret C dX9_moment_17 rfl rfl ⟨(ti_any (-1)), hJ8⟩
    · refine b_if_ne C 18 dX9_moment_13 (by decide) (show (1 : Int32).toInt = 1 by decide) (fun c10 => ?_) (fun c10 => absurd c10 (by decide))
      refine v_iload_n C 3 dX9_moment_18 rfl rfl ?_
      refine b_if_ge C 26 dX9_moment_19 (by decide) (rfl : Int32.toInt z = _) (fun c11 => ?_) (fun c11 => ?_)
      · refine v_aload_n C 0 dX9_moment_26 rfl rfl ?_
        refine v_iload_n C 1 dX9_moment_27 rfl rfl ?_
        refine v_iload_n C 2 dX9_moment_28 rfl rfl ?_
        refine v_iload_n C 3 dX9_moment_29 rfl rfl ?_
        obtain ⟨im16, hM16, hb16⟩ := hJ8.1
        have hq16 := hM16.b
        refine v_cVi C dX9_moment_30 lX9_191 mX9_momentOf 68 (by omega) hM16.2.2.1 (by decide) rfl (t_X9_momentOf l G ad hJ8 x (show (0 : Int) ≤ Int32.toInt x ∧ Int32.toInt x ≤ 4 by omega) y z) ⟨by decide, by decide⟩ rfl (Nat.le_of_ble_eq_true rfl) ⟨Nat.zero_le _, Nat.zero_le _⟩ (fun r12 E13 hp14 => ?_)
        obtain ⟨hp14, hJ15⟩ := hp14
        refine v_istore (lv' := [(0, .ref (ad 68)), (1, .int x), (2, .int y), (3, .int z), (4, .int r12)]) C [1, 2, 3, 4, 0] dX9_moment_33 (by decide) rfl ?_
        refine v_iload C 4 dX9_moment_35 rfl ?_
        refine b_if_ge C 45 dX9_moment_37 (by decide) (rfl : Int32.toInt r12 = _) (fun c17 => ?_) (fun c17 => ?_)
        · refine v_iload C 4 dX9_moment_45 rfl ?_
          exact v_ret C dX9_moment_47 rfl rfl ⟨(ti_any r12), hJ15⟩
        · refine v_bipush (v := (-6)) C dX9_moment_40 (by decide) ?_
          refine v_goto C 47 dX9_moment_42 (by decide) ?_
          exact v_ret C dX9_moment_47 rfl rfl ⟨(ti_any (-6)), hJ15⟩
      · refine v_iconst (v := (-1)) C dX9_moment_22 (by decide) ?_
        refine v_goto C 33 dX9_moment_23 (by decide) ?_
        refine v_istore (lv' := [(0, .ref (ad 68)), (1, .int x), (2, .int y), (3, .int z), (4, .int (-1))]) C [1, 2, 3, 4, 0] dX9_moment_33 (by decide) rfl ?_
        refine v_iload C 4 dX9_moment_35 rfl ?_
        refine b_if_ge C 45 dX9_moment_37 (by decide) (show ((-1) : Int32).toInt = (-1) by decide) (fun c18 => absurd c18 (by decide)) (fun c18 => ?_)
        refine v_bipush (v := (-6)) C dX9_moment_40 (by decide) ?_
        refine v_goto C 47 dX9_moment_42 (by decide) ?_
        exact v_ret C dX9_moment_47 rfl rfl ⟨(ti_any (-6)), hJ8⟩
  · refine b_if_eq C 16 dX9_moment_5 (by decide) (show (0 : Int32).toInt = 0 by decide) (fun c19 => ?_) (fun c19 => absurd c19 (by decide))
    refine v_iconst (v := (-1)) C dX9_moment_16 (by decide) ?_
    exact v_ret C dX9_moment_17 rfl rfl ⟨(ti_any (-1)), hJ⟩

set_option maxRecDepth 20000 in
theorem t_X9_firstFrom (l : Launch) (G : Gl) (ad : Nat → Nat) {n : Nat} {ic md : Nat → Int32} {bd : Nat → Int × Int} {E0 E : Nat → va_E} (hJ : JM G ad n ic md bd PR E0 E) (x : Int32) (hx : (0 : Int) ≤ x.toInt ∧ x.toInt ≤ 4) (y : Int32) (z : Int32) : CtI l G yX9_firstFrom cX9_firstFrom 8 .int 4 96 (n) ad E [.ref (ad 68), .int x, .int y, .int z] (fun r E' => ((-2147483648 : Int) ≤ r.toInt ∧ r.toInt ≤ 2147483647) ∧ JM G ad n ic md bd PR E0 E') := by
  refine CtI.of (by decide) (Nat.le_of_ble_eq_true rfl) (fun X A C => ?_)
  refine v_sub (lv' := [(0, .ref (ad 68)), (1, .int x), (2, .int y), (3, .int z)]) [0, 1, 2, 3] rfl ?_
  have hn := hJ.hn
  have hz16 := hJ.2.2.2.2
  refine v_aload_n C 0 dX9_firstFrom_0 rfl rfl ?_
  refine v_iload_n C 1 dX9_firstFrom_1 rfl rfl ?_
  obtain ⟨im5, hM5, hb5⟩ := hJ.1
  have hq5 := hM5.b
  refine v_cVv C dX9_firstFrom_2 lX9_171 mX9_find 68 (by omega) hM5.2.2.1 (by decide) rfl (t_X9_find l G ad hJ x (show (0 : Int) ≤ Int32.toInt x ∧ Int32.toInt x ≤ 4 by omega)) ⟨by decide, by decide⟩ rfl (Nat.le_of_ble_eq_true rfl) ⟨Nat.zero_le _, Nat.zero_le _⟩ (fun E2 hJ4 => ?_)
  refine v_iconst (v := 0) C dX9_firstFrom_5 (by decide) ?_
  refine v_istore (lv' := [(0, .ref (ad 68)), (1, .int x), (2, .int y), (3, .int z), (4, .int 0)]) C [1, 2, 3, 4, 0] dX9_firstFrom_6 (by decide) rfl ?_
  have LP6 : ∀ (t : Nat) (E8 : Nat → va_E) (y7 : Int32), JM G ad n ic md bd PR E0 E8 → ((0 : Int) ≤ y7.toInt ∧ y7.toInt ≤ 801) → 802 - y7.toInt < (t : Int) → V X G A 8 (QI X G A (n) ad (fun r E' => ((-2147483648 : Int) ≤ r.toInt ∧ r.toInt ≤ 2147483647) ∧ JM G ad n ic md bd PR E0 E')) n ad 0 0 E8 8 [(0, .ref (ad 68)), (1, .int x), (2, .int y), (3, .int z), (4, .int y7)] [] := by
    intro t12
    induction t12 with
    | zero => intro E8 y7 hJ9 hy7 hm11; exfalso; omega
    | succ t12 ih10 =>
      intro E8 y7 hJ9 hy7 hm11
      refine v_iload C 4 dX9_firstFrom_8 rfl ?_
      refine v_aload_n C 0 dX9_firstFrom_10 rfl rfl ?_
      obtain ⟨im13, hM13, hb13⟩ := hJ9.1
      have hq13 := hM13.b
      refine v_getr C 68 dX9_firstFrom_11 fX9_67 (by omega) hM13.2.2.1 rfl rfl ?_
      refine v_iload_n C 1 dX9_firstFrom_14 rfl rfl ?_
      obtain ⟨f15, hE15, hb15⟩ := hJ9.2.1.getA (b := 82) (by omega) rfl
      refine v_ald (v := f15 (x.toInt).toNat) C 82 dX9_firstFrom_15 (by omega) hE15 (ti_in (rfl : Int32.toInt x = _) (by omega) (by omega)) (by rw [ti_cl (rfl : Int32.toInt x = _)]) ?_
      refine v_top (fun x16 ex16 => ?_)
      have hx16 : (0 : Int) ≤ x16.toInt ∧ x16.toInt ≤ 800 := by rw [ex16]; exact hb15 _
      refine b_icmp_gt C 99 dX9_firstFrom_16 (by decide) (rfl : Int32.toInt y7 = _) (rfl : Int32.toInt x16 = _) (fun c17 => ?_) (fun c17 => ?_)
      · refine v_iconst (v := (-1)) C dX9_firstFrom_99 (by decide) ?_
        exact v_ret C dX9_firstFrom_100 rfl rfl ⟨(ti_any (-1)), hJ9⟩
      · refine v_aload_n C 0 dX9_firstFrom_19 rfl rfl ?_
        refine v_getr C 68 dX9_firstFrom_20 fX9_64 (by omega) hM13.2.2.1 rfl rfl ?_
        refine v_sipush (v := 801) C dX9_firstFrom_23 (by decide) ?_
        refine v_iload_n C 1 dX9_firstFrom_26 rfl rfl ?_
        refine v_imul C dX9_firstFrom_27 ?_
        refine v_top (fun x18 ex18 => ?_)
        have hx18 : x18.toInt = (801 * x.toInt) := by rw [ex18]; exact ti_mul (show (801 : Int32).toInt = 801 by decide) (rfl : Int32.toInt x = _) (by omega) (by omega)
        refine v_iload C 4 dX9_firstFrom_28 rfl ?_
        refine v_iadd C dX9_firstFrom_30 ?_
        refine v_top (fun x19 ex19 => ?_)
        have hx19 : x19.toInt = ((801 * x.toInt) + y7.toInt) := by rw [ex19]; exact ti_add hx18 (rfl : Int32.toInt y7 = _) (by omega) (by omega)
        obtain ⟨f21, hE21, hb21⟩ := hJ9.2.1.getA (b := 81) (by omega) rfl
        refine v_ald (v := f21 (((801 * x.toInt) + y7.toInt)).toNat) C 81 dX9_firstFrom_31 (by omega) hE21 (ti_in hx19 (by omega) (by omega)) (by rw [ti_cl hx19]) ?_
        refine v_top (fun x22 _ => ?_)
        refine v_istore (lv' := [(0, .ref (ad 68)), (1, .int x), (2, .int y), (3, .int z), (4, .int y7), (5, .int x22)]) C [1, 2, 3, 4, 5, 0] dX9_firstFrom_32 (by decide) rfl ?_
        refine v_aload_n C 0 dX9_firstFrom_34 rfl rfl ?_
        refine v_getr C 68 dX9_firstFrom_35 fX9_61 (by omega) hM13.2.2.1 rfl rfl ?_
        refine v_sipush (v := 801) C dX9_firstFrom_38 (by decide) ?_
        refine v_iload_n C 1 dX9_firstFrom_41 rfl rfl ?_
        refine v_imul C dX9_firstFrom_42 ?_
        refine v_top (fun x23 ex23 => ?_)
        have hx23 : x23.toInt = (801 * x.toInt) := by rw [ex23]; exact ti_mul (show (801 : Int32).toInt = 801 by decide) (rfl : Int32.toInt x = _) (by omega) (by omega)
        refine v_iload C 4 dX9_firstFrom_43 rfl ?_
        refine v_iadd C dX9_firstFrom_45 ?_
        refine v_top (fun x24 ex24 => ?_)
        have hx24 : x24.toInt = ((801 * x.toInt) + y7.toInt) := by rw [ex24]; exact ti_add hx23 (rfl : Int32.toInt y7 = _) (by omega) (by omega)
        obtain ⟨f26, hE26, hb26⟩ := hJ9.2.1.getA (b := 80) (by omega) rfl
        refine v_ald (v := f26 (((801 * x.toInt) + y7.toInt)).toNat) C 80 dX9_firstFrom_46 (by omega) hE26 (ti_in hx24 (by omega) (by omega)) (by rw [ti_cl hx24]) ?_
        refine v_top (fun x27 _ => ?_)
        refine v_istore (lv' := [(0, .ref (ad 68)), (1, .int x), (2, .int y), (3, .int z), (4, .int y7), (5, .int x22), (6, .int x27)]) C [1, 2, 3, 4, 5, 6, 0] dX9_firstFrom_47 (by decide) rfl ?_
        refine v_iload_n C 2 dX9_firstFrom_49 rfl rfl ?_
        refine v_iload C 5 dX9_firstFrom_50 rfl ?_
        refine v_isub C dX9_firstFrom_52 ?_
        refine v_top (fun x28 _ => ?_)
        refine v_iload C 6 dX9_firstFrom_53 rfl ?_
        refine b_icmp_le C 65 dX9_firstFrom_55 (by decide) (rfl : Int32.toInt x28 = _) (rfl : Int32.toInt x27 = _) (fun c29 => ?_) (fun c29 => ?_)
        · refine v_iload C 6 dX9_firstFrom_65 rfl ?_
          refine v_istore (lv' := [(0, .ref (ad 68)), (1, .int x), (2, .int y), (3, .int z), (4, .int y7), (5, .int x22), (6, .int x27), (7, .int x27)]) C [1, 2, 3, 4, 5, 6, 7, 0] dX9_firstFrom_67 (by decide) rfl ?_
          refine v_iload C 7 dX9_firstFrom_69 rfl ?_
          refine v_aload_n C 0 dX9_firstFrom_71 rfl rfl ?_
          refine v_iload_n C 1 dX9_firstFrom_72 rfl rfl ?_
          refine v_iload C 4 dX9_firstFrom_73 rfl ?_
          refine v_cVp C dX9_firstFrom_75 lX9_188 mX9_spanEnd 68 (by omega) hM13.2.2.1 (by decide) rfl (t_X9_spanEnd l G ad hJ9 x (show (0 : Int) ≤ Int32.toInt x ∧ Int32.toInt x ≤ 4 by omega) y7 (show (0 : Int) ≤ Int32.toInt y7 ∧ Int32.toInt y7 ≤ 800 by omega) (fun f hf => by rw [aI_inj (hf.symm.trans hE15), ← ex16]; omega)) ⟨by decide, by decide⟩ rfl (Nat.le_of_ble_eq_true rfl) ⟨Nat.zero_le _, Nat.zero_le _⟩ (fun r30 hp31 => ?_)
          refine b_icmp_gt C 93 dX9_firstFrom_78 (by decide) (rfl : Int32.toInt x27 = _) (rfl : Int32.toInt r30 = _) (fun c32 => ?_) (fun c32 => ?_)
          · obtain ⟨x33, ex33⟩ : ∃ y : Int32, y = y7 + 1 := ⟨_, rfl⟩
            have hx33 : x33.toInt = (y7.toInt + 1) := by rw [ex33]; exact ti_add (rfl : Int32.toInt y7 = _) (show (1 : Int32).toInt = 1 by decide) (by omega) (by omega)
            refine v_iinc (v := x33) (lv' := [(0, .ref (ad 68)), (1, .int x), (2, .int y), (3, .int z), (4, .int x33), (5, .int x22), (6, .int x27), (7, .int x27)]) C 4 [1, 2, 3, 4, 0, 5, 6, 7] dX9_firstFrom_93 rfl (ex33.symm) (by decide) rfl ?_
            refine v_goto C 8 dX9_firstFrom_96 (by decide) ?_
            refine v_sub (lv' := [(0, .ref (ad 68)), (1, .int x), (2, .int y), (3, .int z), (4, .int x33)]) [0, 1, 2, 3, 4] rfl ?_
            exact ih10 _ x33 hJ9 (by have := hx33; omega) (by have := hx33; omega)
          · refine v_iload C 7 dX9_firstFrom_81 rfl ?_
            refine v_iload C 5 dX9_firstFrom_83 rfl ?_
            refine v_iadd C dX9_firstFrom_85 ?_
            refine v_top (fun x34 _ => ?_)
            refine v_iload_n C 3 dX9_firstFrom_86 rfl rfl ?_
            refine b_icmp_gt C 93 dX9_firstFrom_87 (by decide) (rfl : Int32.toInt x34 = _) (rfl : Int32.toInt z = _) (fun c35 => ?_) (fun c35 => ?_)
            · obtain ⟨x36, ex36⟩ : ∃ y : Int32, y = y7 + 1 := ⟨_, rfl⟩
              have hx36 : x36.toInt = (y7.toInt + 1) := by rw [ex36]; exact ti_add (rfl : Int32.toInt y7 = _) (show (1 : Int32).toInt = 1 by decide) (by omega) (by omega)
              refine v_iinc (v := x36) (lv' := [(0, .ref (ad 68)), (1, .int x), (2, .int y), (3, .int z), (4, .int x36), (5, .int x22), (6, .int x27), (7, .int x27)]) C 4 [1, 2, 3, 4, 0, 5, 6, 7] dX9_firstFrom_93 rfl (ex36.symm) (by decide) rfl ?_
              refine v_goto C 8 dX9_firstFrom_96 (by decide) ?_
              refine v_sub (lv' := [(0, .ref (ad 68)), (1, .int x), (2, .int y), (3, .int z), (4, .int x36)]) [0, 1, 2, 3, 4] rfl ?_
              exact ih10 _ x36 hJ9 (by have := hx36; omega) (by have := hx36; omega)
            · refine v_iload C 7 dX9_firstFrom_90 rfl ?_
              exact v_ret C dX9_firstFrom_92 rfl rfl ⟨(ti_any x27), hJ9⟩
        · refine v_iload_n C 2 dX9_firstFrom_58 rfl rfl ?_
          refine v_iload C 5 dX9_firstFrom_59 rfl ?_
          refine v_isub C dX9_firstFrom_61 ?_
          refine v_top (fun x37 _ => ?_)
          refine v_goto C 67 dX9_firstFrom_62 (by decide) ?_
          refine v_istore (lv' := [(0, .ref (ad 68)), (1, .int x), (2, .int y), (3, .int z), (4, .int y7), (5, .int x22), (6, .int x27), (7, .int x37)]) C [1, 2, 3, 4, 5, 6, 7, 0] dX9_firstFrom_67 (by decide) rfl ?_
          refine v_iload C 7 dX9_firstFrom_69 rfl ?_
          refine v_aload_n C 0 dX9_firstFrom_71 rfl rfl ?_
          refine v_iload_n C 1 dX9_firstFrom_72 rfl rfl ?_
          refine v_iload C 4 dX9_firstFrom_73 rfl ?_
          refine v_cVp C dX9_firstFrom_75 lX9_188 mX9_spanEnd 68 (by omega) hM13.2.2.1 (by decide) rfl (t_X9_spanEnd l G ad hJ9 x (show (0 : Int) ≤ Int32.toInt x ∧ Int32.toInt x ≤ 4 by omega) y7 (show (0 : Int) ≤ Int32.toInt y7 ∧ Int32.toInt y7 ≤ 800 by omega) (fun f hf => by rw [aI_inj (hf.symm.trans hE15), ← ex16]; omega)) ⟨by decide, by decide⟩ rfl (Nat.le_of_ble_eq_true rfl) ⟨Nat.zero_le _, Nat.zero_le _⟩ (fun r38 hp39 => ?_)
          refine b_icmp_gt C 93 dX9_firstFrom_78 (by decide) (rfl : Int32.toInt x37 = _) (rfl : Int32.toInt r38 = _) (fun c40 => ?_) (fun c40 => ?_)
          · obtain ⟨x41, ex41⟩ : ∃ y : Int32, y = y7 + 1 := ⟨_, rfl⟩
            have hx41 : x41.toInt = (y7.toInt + 1) := by rw [ex41]; exact ti_add (rfl : Int32.toInt y7 = _) (show (1 : Int32).toInt = 1 by decide) (by omega) (by omega)
            refine v_iinc (v := x41) (lv' := [(0, .ref (ad 68)), (1, .int x), (2, .int y), (3, .int z), (4, .int x41), (5, .int x22), (6, .int x27), (7, .int x37)]) C 4 [1, 2, 3, 4, 0, 5, 6, 7] dX9_firstFrom_93 rfl (ex41.symm) (by decide) rfl ?_
            refine v_goto C 8 dX9_firstFrom_96 (by decide) ?_
            refine v_sub (lv' := [(0, .ref (ad 68)), (1, .int x), (2, .int y), (3, .int z), (4, .int x41)]) [0, 1, 2, 3, 4] rfl ?_
            exact ih10 _ x41 hJ9 (by have := hx41; omega) (by have := hx41; omega)
          · refine v_iload C 7 dX9_firstFrom_81 rfl ?_
            refine v_iload C 5 dX9_firstFrom_83 rfl ?_
            refine v_iadd C dX9_firstFrom_85 ?_
            refine v_top (fun x42 _ => ?_)
            refine v_iload_n C 3 dX9_firstFrom_86 rfl rfl ?_
            refine b_icmp_gt C 93 dX9_firstFrom_87 (by decide) (rfl : Int32.toInt x42 = _) (rfl : Int32.toInt z = _) (fun c43 => ?_) (fun c43 => ?_)
            · obtain ⟨x44, ex44⟩ : ∃ y : Int32, y = y7 + 1 := ⟨_, rfl⟩
              have hx44 : x44.toInt = (y7.toInt + 1) := by rw [ex44]; exact ti_add (rfl : Int32.toInt y7 = _) (show (1 : Int32).toInt = 1 by decide) (by omega) (by omega)
              refine v_iinc (v := x44) (lv' := [(0, .ref (ad 68)), (1, .int x), (2, .int y), (3, .int z), (4, .int x44), (5, .int x22), (6, .int x27), (7, .int x37)]) C 4 [1, 2, 3, 4, 0, 5, 6, 7] dX9_firstFrom_93 rfl (ex44.symm) (by decide) rfl ?_
              refine v_goto C 8 dX9_firstFrom_96 (by decide) ?_
              refine v_sub (lv' := [(0, .ref (ad 68)), (1, .int x), (2, .int y), (3, .int z), (4, .int x44)]) [0, 1, 2, 3, 4] rfl ?_
              exact ih10 _ x44 hJ9 (by have := hx44; omega) (by have := hx44; omega)
            · refine v_iload C 7 dX9_firstFrom_90 rfl ?_
              exact v_ret C dX9_firstFrom_92 rfl rfl ⟨(ti_any x37), hJ9⟩
  exact LP6 100000 _ 0 hJ4 (by have := (show (0 : Int32).toInt = 0 by decide); omega) (by have := (show (0 : Int32).toInt = 0 by decide); omega)

set_option maxRecDepth 20000 in
theorem t_X9_lastAhead (l : Launch) (G : Gl) (ad : Nat → Nat) {n : Nat} {ic md : Nat → Int32} {bd : Nat → Int × Int} {E0 E : Nat → va_E} (hJ : JM G ad n ic md bd PR E0 E) (x : Int32) (hx : (0 : Int) ≤ x.toInt ∧ x.toInt ≤ 4) (y : Int32) : CtI l G yX9_lastAhead cX9_lastAhead 6 .int 4 96 (n) ad E [.ref (ad 68), .int x, .int y] (fun r E' => ((-2147483648 : Int) ≤ r.toInt ∧ r.toInt ≤ 2147483647) ∧ JM G ad n ic md bd PR E0 E') := by
  refine CtI.of (by decide) (Nat.le_of_ble_eq_true rfl) (fun X A C => ?_)
  refine v_sub (lv' := [(0, .ref (ad 68)), (1, .int x), (2, .int y)]) [0, 1, 2] rfl ?_
  have hn := hJ.hn
  have hz16 := hJ.2.2.2.2
  refine v_aload_n C 0 dX9_lastAhead_0 rfl rfl ?_
  refine v_iload_n C 1 dX9_lastAhead_1 rfl rfl ?_
  obtain ⟨im5, hM5, hb5⟩ := hJ.1
  have hq5 := hM5.b
  refine v_cVv C dX9_lastAhead_2 lX9_171 mX9_find 68 (by omega) hM5.2.2.1 (by decide) rfl (t_X9_find l G ad hJ x (show (0 : Int) ≤ Int32.toInt x ∧ Int32.toInt x ≤ 4 by omega)) ⟨by decide, by decide⟩ rfl (Nat.le_of_ble_eq_true rfl) ⟨Nat.zero_le _, Nat.zero_le _⟩ (fun E2 hJ4 => ?_)
  refine v_aload_n C 0 dX9_lastAhead_5 rfl rfl ?_
  obtain ⟨im6, hM6, hb6⟩ := hJ4.1
  have hq6 := hM6.b
  refine v_getr C 68 dX9_lastAhead_6 fX9_67 (by omega) hM6.2.2.1 rfl rfl ?_
  refine v_iload_n C 1 dX9_lastAhead_9 rfl rfl ?_
  obtain ⟨f8, hE8, hb8⟩ := hJ4.2.1.getA (b := 82) (by omega) rfl
  refine v_ald (v := f8 (x.toInt).toNat) C 82 dX9_lastAhead_10 (by omega) hE8 (ti_in (rfl : Int32.toInt x = _) (by omega) (by omega)) (by rw [ti_cl (rfl : Int32.toInt x = _)]) ?_
  refine v_top (fun x9 ex9 => ?_)
  have hx9 : (0 : Int) ≤ x9.toInt ∧ x9.toInt ≤ 800 := by rw [ex9]; exact hb8 _
  refine v_istore_n (lv' := [(0, .ref (ad 68)), (1, .int x), (2, .int y), (3, .int x9)]) C [1, 2, 3, 0] dX9_lastAhead_11 rfl (by decide) rfl ?_
  have LP10 : ∀ (t : Nat) (y11 : Int32), ((-1 : Int) ≤ y11.toInt ∧ y11.toInt ≤ 800) → (y11.toInt ≤ x9.toInt) → y11.toInt + 1 < (t : Int) → V X G A 6 (QI X G A (n) ad (fun r E' => ((-2147483648 : Int) ≤ r.toInt ∧ r.toInt ≤ 2147483647) ∧ JM G ad n ic md bd PR E0 E')) n ad 0 0 E2 12 [(0, .ref (ad 68)), (1, .int x), (2, .int y), (3, .int y11)] [] := by
    intro t17
    induction t17 with
    | zero => intro y11 hy11 hq12 hm16; exfalso; omega
    | succ t17 ih15 =>
      intro y11 hy11 hq12 hm16
      refine v_iload_n C 3 dX9_lastAhead_12 rfl rfl ?_
      refine b_if_lt C 88 dX9_lastAhead_13 (by decide) (rfl : Int32.toInt y11 = _) (fun c18 => ?_) (fun c18 => ?_)
      · refine v_iconst (v := (-1)) C dX9_lastAhead_88 (by decide) ?_
        exact v_ret C dX9_lastAhead_89 rfl rfl ⟨(ti_any (-1)), hJ4⟩
      · refine v_aload_n C 0 dX9_lastAhead_16 rfl rfl ?_
        refine v_getr C 68 dX9_lastAhead_17 fX9_64 (by omega) hM6.2.2.1 rfl rfl ?_
        refine v_sipush (v := 801) C dX9_lastAhead_20 (by decide) ?_
        refine v_iload_n C 1 dX9_lastAhead_23 rfl rfl ?_
        refine v_imul C dX9_lastAhead_24 ?_
        refine v_top (fun x19 ex19 => ?_)
        have hx19 : x19.toInt = (801 * x.toInt) := by rw [ex19]; exact ti_mul (show (801 : Int32).toInt = 801 by decide) (rfl : Int32.toInt x = _) (by omega) (by omega)
        refine v_iload_n C 3 dX9_lastAhead_25 rfl rfl ?_
        refine v_iadd C dX9_lastAhead_26 ?_
        refine v_top (fun x20 ex20 => ?_)
        have hx20 : x20.toInt = ((801 * x.toInt) + y11.toInt) := by rw [ex20]; exact ti_add hx19 (rfl : Int32.toInt y11 = _) (by omega) (by omega)
        obtain ⟨f22, hE22, hb22⟩ := hJ4.2.1.getA (b := 81) (by omega) rfl
        refine v_ald (v := f22 (((801 * x.toInt) + y11.toInt)).toNat) C 81 dX9_lastAhead_27 (by omega) hE22 (ti_in hx20 (by omega) (by omega)) (by rw [ti_cl hx20]) ?_
        refine v_top (fun x23 _ => ?_)
        refine v_istore (lv' := [(0, .ref (ad 68)), (1, .int x), (2, .int y), (3, .int y11), (4, .int x23)]) C [1, 2, 3, 4, 0] dX9_lastAhead_28 (by decide) rfl ?_
        refine v_iload_n C 2 dX9_lastAhead_30 rfl rfl ?_
        refine v_iconst (v := 1) C dX9_lastAhead_31 (by decide) ?_
        refine v_isub C dX9_lastAhead_32 ?_
        refine v_top (fun x24 _ => ?_)
        refine v_iload C 4 dX9_lastAhead_33 rfl ?_
        refine v_isub C dX9_lastAhead_35 ?_
        refine v_top (fun x25 _ => ?_)
        refine v_aload_n C 0 dX9_lastAhead_36 rfl rfl ?_
        refine v_iload_n C 1 dX9_lastAhead_37 rfl rfl ?_
        refine v_iload_n C 3 dX9_lastAhead_38 rfl rfl ?_
        refine v_cVp C dX9_lastAhead_39 lX9_188 mX9_spanEnd 68 (by omega) hM6.2.2.1 (by decide) rfl (t_X9_spanEnd l G ad hJ4 x (show (0 : Int) ≤ Int32.toInt x ∧ Int32.toInt x ≤ 4 by omega) y11 (show (0 : Int) ≤ Int32.toInt y11 ∧ Int32.toInt y11 ≤ 800 by omega) (fun f hf => by rw [aI_inj (hf.symm.trans hE8), ← ex9]; omega)) ⟨by decide, by decide⟩ rfl (Nat.le_of_ble_eq_true rfl) ⟨Nat.zero_le _, Nat.zero_le _⟩ (fun r26 hp27 => ?_)
        refine b_icmp_ge C 54 dX9_lastAhead_42 (by decide) (rfl : Int32.toInt x25 = _) (rfl : Int32.toInt r26 = _) (fun c28 => ?_) (fun c28 => ?_)
        · refine v_aload_n C 0 dX9_lastAhead_54 rfl rfl ?_
          refine v_iload_n C 1 dX9_lastAhead_55 rfl rfl ?_
          refine v_iload_n C 3 dX9_lastAhead_56 rfl rfl ?_
          refine v_cVp C dX9_lastAhead_57 lX9_188 mX9_spanEnd 68 (by omega) hM6.2.2.1 (by decide) rfl (t_X9_spanEnd l G ad hJ4 x (show (0 : Int) ≤ Int32.toInt x ∧ Int32.toInt x ≤ 4 by omega) y11 (show (0 : Int) ≤ Int32.toInt y11 ∧ Int32.toInt y11 ≤ 800 by omega) (fun f hf => by rw [aI_inj (hf.symm.trans hE8), ← ex9]; omega)) ⟨by decide, by decide⟩ rfl (Nat.le_of_ble_eq_true rfl) ⟨Nat.zero_le _, Nat.zero_le _⟩ (fun r29 hp30 => ?_)
          refine v_istore (lv' := [(0, .ref (ad 68)), (1, .int x), (2, .int y), (3, .int y11), (4, .int x23), (5, .int r29)]) C [1, 2, 3, 4, 5, 0] dX9_lastAhead_60 (by decide) rfl ?_
          refine v_iload C 5 dX9_lastAhead_62 rfl ?_
          refine v_aload_n C 0 dX9_lastAhead_64 rfl rfl ?_
          refine v_getr C 68 dX9_lastAhead_65 fX9_61 (by omega) hM6.2.2.1 rfl rfl ?_
          refine v_sipush (v := 801) C dX9_lastAhead_68 (by decide) ?_
          refine v_iload_n C 1 dX9_lastAhead_71 rfl rfl ?_
          refine v_imul C dX9_lastAhead_72 ?_
          refine v_top (fun x31 ex31 => ?_)
          have hx31 : x31.toInt = (801 * x.toInt) := by rw [ex31]; exact ti_mul (show (801 : Int32).toInt = 801 by decide) (rfl : Int32.toInt x = _) (by omega) (by omega)
          refine v_iload_n C 3 dX9_lastAhead_73 rfl rfl ?_
          refine v_iadd C dX9_lastAhead_74 ?_
          refine v_top (fun x32 ex32 => ?_)
          have hx32 : x32.toInt = ((801 * x.toInt) + y11.toInt) := by rw [ex32]; exact ti_add hx31 (rfl : Int32.toInt y11 = _) (by omega) (by omega)
          obtain ⟨f34, hE34, hb34⟩ := hJ4.2.1.getA (b := 80) (by omega) rfl
          refine v_ald (v := f34 (((801 * x.toInt) + y11.toInt)).toNat) C 80 dX9_lastAhead_75 (by omega) hE34 (ti_in hx32 (by omega) (by omega)) (by rw [ti_cl hx32]) ?_
          refine v_top (fun x35 _ => ?_)
          refine b_icmp_lt C 82 dX9_lastAhead_76 (by decide) (rfl : Int32.toInt r29 = _) (rfl : Int32.toInt x35 = _) (fun c36 => ?_) (fun c36 => ?_)
          · obtain ⟨x37, ex37⟩ : ∃ y : Int32, y = y11 + (-1) := ⟨_, rfl⟩
            have hx37 : x37.toInt = (y11.toInt + (-1)) := by rw [ex37]; exact ti_add (rfl : Int32.toInt y11 = _) (show ((-1) : Int32).toInt = (-1) by decide) (by omega) (by omega)
            refine v_iinc (v := x37) (lv' := [(0, .ref (ad 68)), (1, .int x), (2, .int y), (3, .int x37), (4, .int x23), (5, .int r29)]) C 3 [1, 2, 3, 0, 4, 5] dX9_lastAhead_82 rfl (ex37.symm) (by decide) rfl ?_
            refine v_goto C 12 dX9_lastAhead_85 (by decide) ?_
            refine v_sub (lv' := [(0, .ref (ad 68)), (1, .int x), (2, .int y), (3, .int x37)]) [0, 1, 2, 3] rfl ?_
            exact ih15 x37  (by have := hx37; omega) (by have := hx37; omega) (by have := hx37; omega)
          · refine v_iload C 5 dX9_lastAhead_79 rfl ?_
            exact v_ret C dX9_lastAhead_81 rfl rfl ⟨(ti_any r29), hJ4⟩
        · refine v_iload_n C 2 dX9_lastAhead_45 rfl rfl ?_
          refine v_iconst (v := 1) C dX9_lastAhead_46 (by decide) ?_
          refine v_isub C dX9_lastAhead_47 ?_
          refine v_top (fun x38 _ => ?_)
          refine v_iload C 4 dX9_lastAhead_48 rfl ?_
          refine v_isub C dX9_lastAhead_50 ?_
          refine v_top (fun x39 _ => ?_)
          refine v_goto C 60 dX9_lastAhead_51 (by decide) ?_
          refine v_istore (lv' := [(0, .ref (ad 68)), (1, .int x), (2, .int y), (3, .int y11), (4, .int x23), (5, .int x39)]) C [1, 2, 3, 4, 5, 0] dX9_lastAhead_60 (by decide) rfl ?_
          refine v_iload C 5 dX9_lastAhead_62 rfl ?_
          refine v_aload_n C 0 dX9_lastAhead_64 rfl rfl ?_
          refine v_getr C 68 dX9_lastAhead_65 fX9_61 (by omega) hM6.2.2.1 rfl rfl ?_
          refine v_sipush (v := 801) C dX9_lastAhead_68 (by decide) ?_
          refine v_iload_n C 1 dX9_lastAhead_71 rfl rfl ?_
          refine v_imul C dX9_lastAhead_72 ?_
          refine v_top (fun x40 ex40 => ?_)
          have hx40 : x40.toInt = (801 * x.toInt) := by rw [ex40]; exact ti_mul (show (801 : Int32).toInt = 801 by decide) (rfl : Int32.toInt x = _) (by omega) (by omega)
          refine v_iload_n C 3 dX9_lastAhead_73 rfl rfl ?_
          refine v_iadd C dX9_lastAhead_74 ?_
          refine v_top (fun x41 ex41 => ?_)
          have hx41 : x41.toInt = ((801 * x.toInt) + y11.toInt) := by rw [ex41]; exact ti_add hx40 (rfl : Int32.toInt y11 = _) (by omega) (by omega)
          obtain ⟨f43, hE43, hb43⟩ := hJ4.2.1.getA (b := 80) (by omega) rfl
          refine v_ald (v := f43 (((801 * x.toInt) + y11.toInt)).toNat) C 80 dX9_lastAhead_75 (by omega) hE43 (ti_in hx41 (by omega) (by omega)) (by rw [ti_cl hx41]) ?_
          refine v_top (fun x44 _ => ?_)
          refine b_icmp_lt C 82 dX9_lastAhead_76 (by decide) (rfl : Int32.toInt x39 = _) (rfl : Int32.toInt x44 = _) (fun c45 => ?_) (fun c45 => ?_)
          · obtain ⟨x46, ex46⟩ : ∃ y : Int32, y = y11 + (-1) := ⟨_, rfl⟩
            have hx46 : x46.toInt = (y11.toInt + (-1)) := by rw [ex46]; exact ti_add (rfl : Int32.toInt y11 = _) (show ((-1) : Int32).toInt = (-1) by decide) (by omega) (by omega)
            refine v_iinc (v := x46) (lv' := [(0, .ref (ad 68)), (1, .int x), (2, .int y), (3, .int x46), (4, .int x23), (5, .int x39)]) C 3 [1, 2, 3, 0, 4, 5] dX9_lastAhead_82 rfl (ex46.symm) (by decide) rfl ?_
            refine v_goto C 12 dX9_lastAhead_85 (by decide) ?_
            refine v_sub (lv' := [(0, .ref (ad 68)), (1, .int x), (2, .int y), (3, .int x46)]) [0, 1, 2, 3] rfl ?_
            exact ih15 x46  (by have := hx46; omega) (by have := hx46; omega) (by have := hx46; omega)
          · refine v_iload C 5 dX9_lastAhead_79 rfl ?_
            exact v_ret C dX9_lastAhead_81 rfl rfl ⟨(ti_any x39), hJ4⟩
  exact LP10 100000 x9  (by omega) (by omega) (by omega)

set_option maxRecDepth 20000 in
theorem t_X9_turned (l : Launch) (G : Gl) (ad : Nat → Nat) {n : Nat} {ic md : Nat → Int32} {bd : Nat → Int × Int} {E0 E : Nat → va_E} (hJ : JM G ad n ic md bd PR E0 E) (x : Int32) (hx : (0 : Int) ≤ x.toInt ∧ x.toInt ≤ 4) (y : Int32) (z : Int32) : CtI l G yX9_turned cX9_turned 5 .int 5 123 (n) ad E [.ref (ad 68), .int x, .int y, .int z] (fun r E' => ((-2147483648 : Int) ≤ r.toInt ∧ r.toInt ≤ 2147483647) ∧ JM G ad n ic md bd PR E0 E') := by
  refine CtI.of (by decide) (Nat.le_of_ble_eq_true rfl) (fun X A C => ?_)
  refine v_sub (lv' := [(0, .ref (ad 68)), (1, .int x), (2, .int y), (3, .int z)]) [0, 1, 2, 3] rfl ?_
  have hn := hJ.hn
  have hz16 := hJ.2.2.2.2
  refine v_aload_n C 0 dX9_turned_0 rfl rfl ?_
  refine v_iload_n C 1 dX9_turned_1 rfl rfl ?_
  refine v_iload_n C 2 dX9_turned_2 rfl rfl ?_
  refine v_iconst (v := (-1)) C dX9_turned_3 (by decide) ?_
  obtain ⟨im5, hM5, hb5⟩ := hJ.1
  have hq5 := hM5.b
  refine v_cVi C dX9_turned_4 lX9_191 mX9_momentOf 68 (by omega) hM5.2.2.1 (by decide) rfl (t_X9_momentOf l G ad hJ x (show (0 : Int) ≤ Int32.toInt x ∧ Int32.toInt x ≤ 4 by omega) y (-1)) ⟨by decide, by decide⟩ rfl (Nat.le_of_ble_eq_true rfl) ⟨Nat.zero_le _, Nat.zero_le _⟩ (fun r1 E2 hp3 => ?_)
  obtain ⟨hp3, hJ4⟩ := hp3
  refine v_istore (lv' := [(0, .ref (ad 68)), (1, .int x), (2, .int y), (3, .int z), (4, .int r1)]) C [1, 2, 3, 4, 0] dX9_turned_7 (by decide) rfl ?_
  refine v_iload C 4 dX9_turned_9 rfl ?_
  refine b_if_le C 33 dX9_turned_11 (by decide) (rfl : Int32.toInt r1 = _) (fun c6 => ?_) (fun c6 => ?_)
  · refine v_iload_n C 3 dX9_turned_33 rfl rfl ?_
    refine b_if_ne C 50 dX9_turned_34 (by decide) (rfl : Int32.toInt z = _) (fun c7 => ?_) (fun c7 => ?_)
    · refine v_aload_n C 0 dX9_turned_50 rfl rfl ?_
      refine v_iload_n C 1 dX9_turned_51 rfl rfl ?_
      refine v_iload_n C 2 dX9_turned_52 rfl rfl ?_
      obtain ⟨im12, hM12, hb12⟩ := hJ4.1
      have hq12 := hM12.b
      refine v_cVi C dX9_turned_53 lX9_239 mX9_lastAhead 68 (by omega) hM12.2.2.1 (by decide) rfl (t_X9_lastAhead l G ad hJ4 x (show (0 : Int) ≤ Int32.toInt x ∧ Int32.toInt x ≤ 4 by omega) y) ⟨by decide, by decide⟩ rfl (Nat.le_of_ble_eq_true rfl) ⟨Nat.zero_le _, Nat.zero_le _⟩ (fun r8 E9 hp10 => ?_)
      obtain ⟨hp10, hJ11⟩ := hp10
      exact v_ret C dX9_turned_56 rfl rfl ⟨(ti_any r8), hJ11⟩
    · refine v_aload_n C 0 dX9_turned_37 rfl rfl ?_
      refine v_iload_n C 1 dX9_turned_38 rfl rfl ?_
      refine v_iload_n C 2 dX9_turned_39 rfl rfl ?_
      refine v_iconst (v := 1) C dX9_turned_40 (by decide) ?_
      refine v_iadd C dX9_turned_41 ?_
      refine v_top (fun x13 _ => ?_)
      refine v_ldc C dX9_turned_42 kX9_235 ?_
      obtain ⟨im18, hM18, hb18⟩ := hJ4.1
      have hq18 := hM18.b
      refine v_cVi C dX9_turned_44 lX9_236 mX9_firstFrom 68 (by omega) hM18.2.2.1 (by decide) rfl (t_X9_firstFrom l G ad hJ4 x (show (0 : Int) ≤ Int32.toInt x ∧ Int32.toInt x ≤ 4 by omega) x13 2147483647) ⟨by decide, by decide⟩ rfl (Nat.le_of_ble_eq_true rfl) ⟨Nat.zero_le _, Nat.zero_le _⟩ (fun r14 E15 hp16 => ?_)
      obtain ⟨hp16, hJ17⟩ := hp16
      refine v_goto C 56 dX9_turned_47 (by decide) ?_
      exact v_ret C dX9_turned_56 rfl rfl ⟨(ti_any r14), hJ17⟩
  · refine v_aload_n C 0 dX9_turned_14 rfl rfl ?_
    refine v_iload_n C 1 dX9_turned_15 rfl rfl ?_
    refine v_iload_n C 2 dX9_turned_16 rfl rfl ?_
    refine v_iload_n C 3 dX9_turned_17 rfl rfl ?_
    refine b_if_ne C 25 dX9_turned_18 (by decide) (rfl : Int32.toInt z = _) (fun c19 => ?_) (fun c19 => ?_)
    · refine v_iload C 4 dX9_turned_25 rfl ?_
      refine v_iconst (v := 1) C dX9_turned_27 (by decide) ?_
      refine v_isub C dX9_turned_28 ?_
      have := ti_any r1
      refine v_top (fun x20 ex20 => ?_)
      have hx20 : x20.toInt = (r1.toInt - 1) := by rw [ex20]; exact ti_sub (rfl : Int32.toInt r1 = _) (show (1 : Int32).toInt = 1 by decide) (by omega) (by omega)
      obtain ⟨im25, hM25, hb25⟩ := hJ4.1
      have hq25 := hM25.b
      refine v_cVi C dX9_turned_29 lX9_191 mX9_momentOf 68 (by omega) hM25.2.2.1 (by decide) rfl (t_X9_momentOf l G ad hJ4 x (show (0 : Int) ≤ Int32.toInt x ∧ Int32.toInt x ≤ 4 by omega) y x20) ⟨by decide, by decide⟩ rfl (Nat.le_of_ble_eq_true rfl) ⟨Nat.zero_le _, Nat.zero_le _⟩ (fun r21 E22 hp23 => ?_)
      obtain ⟨hp23, hJ24⟩ := hp23
      exact v_ret C dX9_turned_32 rfl rfl ⟨(ti_any r21), hJ24⟩
    · refine v_iconst (v := 0) C dX9_turned_21 (by decide) ?_
      refine v_goto C 29 dX9_turned_22 (by decide) ?_
      obtain ⟨im30, hM30, hb30⟩ := hJ4.1
      have hq30 := hM30.b
      refine v_cVi C dX9_turned_29 lX9_191 mX9_momentOf 68 (by omega) hM30.2.2.1 (by decide) rfl (t_X9_momentOf l G ad hJ4 x (show (0 : Int) ≤ Int32.toInt x ∧ Int32.toInt x ≤ 4 by omega) y 0) ⟨by decide, by decide⟩ rfl (Nat.le_of_ble_eq_true rfl) ⟨Nat.zero_le _, Nat.zero_le _⟩ (fun r26 E27 hp28 => ?_)
      obtain ⟨hp28, hJ29⟩ := hp28
      exact v_ret C dX9_turned_32 rfl rfl ⟨(ti_any r26), hJ29⟩

