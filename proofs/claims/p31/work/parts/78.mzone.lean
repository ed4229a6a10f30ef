set_option maxRecDepth 20000 in
theorem t_X9_within (l : Launch) (G : Gl) (ad : Nat → Nat) {n : Nat} {ic md : Nat → Int32} {bd : Nat → Int × Int} {E0 E : Nat → va_E} (hJ : JM G ad n ic md bd PR E0 E) (x : Int32) (y : Int32) (z : Int32) : CtI l G yX9_within cX9_within 3 .boolean 0 0 (n) ad E [.int x, .int y, .int z] (fun r E' => ((r = 1 ∧ (y.toInt ≤ x.toInt ∧ x.toInt ≤ z.toInt)) ∨ (r = 0 ∧ ¬ (y.toInt ≤ x.toInt ∧ x.toInt ≤ z.toInt))) ∧ E = E') := by
  refine CtI.of (by decide) (Nat.le_of_ble_eq_true rfl) (fun X A C => ?_)
  refine v_sub (lv' := [(0, .int x), (1, .int y), (2, .int z)]) [0, 1, 2] rfl ?_
  have hn := hJ.hn
  have hz16 := hJ.2.2.2.2
  refine v_iload_n C 0 dX9_within_0 rfl rfl ?_
  refine v_iload_n C 1 dX9_within_1 rfl rfl ?_
  refine b_icmp_lt C 14 dX9_within_2 (by decide) (rfl : Int32.toInt x = _) (rfl : Int32.toInt y = _) (fun c1 => ?_) (fun c1 => ?_)
  · refine v_iconst (v := 0) C dX9_within_14 (by decide) ?_
    exact v_ret C dX9_within_15 rfl rfl ⟨Or.inr ⟨rfl, by omega⟩, rfl⟩
  · refine v_iload_n C 0 dX9_within_5 rfl rfl ?_
    refine v_iload_n C 2 dX9_within_6 rfl rfl ?_
    refine b_icmp_gt C 14 dX9_within_7 (by decide) (rfl : Int32.toInt x = _) (rfl : Int32.toInt z = _) (fun c2 => ?_) (fun c2 => ?_)
    · refine v_iconst (v := 0) C dX9_within_14 (by decide) ?_
      exact v_ret C dX9_within_15 rfl rfl ⟨Or.inr ⟨rfl, by omega⟩, rfl⟩
    · refine v_iconst (v := 1) C dX9_within_10 (by decide) ?_
      refine v_goto C 15 dX9_within_11 (by decide) ?_
      exact v_ret C dX9_within_15 rfl rfl ⟨Or.inl ⟨rfl, by omega⟩, rfl⟩

set_option maxRecDepth 20000 in
theorem t_X9_isMoment (l : Launch) (G : Gl) (ad : Nat → Nat) {n : Nat} {ic md : Nat → Int32} {bd : Nat → Int × Int} {E0 E : Nat → va_E} (hJ : JM G ad n ic md bd PR E0 E) (x : Int32) : CtI l G yX9_isMoment cX9_isMoment 1 .boolean 1 22 (n) ad E [.int x] (fun r E' => ((r = 1 ∧ ((0 : Int) ≤ x.toInt ∧ x.toInt ≤ 59999999)) ∨ (r = 0 ∧ ¬ ((0 : Int) ≤ x.toInt ∧ x.toInt ≤ 59999999))) ∧ E = E') := by
  refine CtI.of (by decide) (Nat.le_of_ble_eq_true rfl) (fun X A C => ?_)
  refine v_sub (lv' := [(0, .int x)]) [0] rfl ?_
  have hn := hJ.hn
  have hz16 := hJ.2.2.2.2
  refine v_iload_n C 0 dX9_isMoment_0 rfl rfl ?_
  refine v_iconst (v := 0) C dX9_isMoment_1 (by decide) ?_
  refine v_ldc C dX9_isMoment_2 kX9_178 ?_
  refine v_cSp C dX9_isMoment_4 lX9_131 mX9_within (t_X9_within l G ad hJ x 0 59999999) ⟨by decide, by decide⟩ rfl (Nat.le_of_ble_eq_true rfl) ⟨Nat.zero_le _, Nat.zero_le _⟩ (fun r1 hp2 => ?_)
  have := (show (0 : Int32).toInt = 0 by decide)
  have := (show (59999999 : Int32).toInt = 59999999 by decide)
  rcases hp2 with ⟨rfl, hp2⟩ | ⟨rfl, hp2⟩
  · exact v_ret C dX9_isMoment_7 rfl rfl ⟨Or.inl ⟨rfl, by omega⟩, rfl⟩
  · exact v_ret C dX9_isMoment_7 rfl rfl ⟨Or.inr ⟨rfl, by omega⟩, rfl⟩

set_option maxRecDepth 20000 in
theorem t_X9_isProgram (l : Launch) (G : Gl) (ad : Nat → Nat) {n : Nat} {ic md : Nat → Int32} {bd : Nat → Int × Int} {E0 E : Nat → va_E} (hJ : JM G ad n ic md bd PR E0 E) (x : Int32) : CtI l G yX9_isProgram cX9_isProgram 1 .boolean 1 22 (n) ad E [.int x] (fun r E' => ((r = 1 ∧ ((0 : Int) ≤ x.toInt ∧ x.toInt ≤ 5)) ∨ (r = 0 ∧ ¬ ((0 : Int) ≤ x.toInt ∧ x.toInt ≤ 5))) ∧ E = E') := by
  refine CtI.of (by decide) (Nat.le_of_ble_eq_true rfl) (fun X A C => ?_)
  refine v_sub (lv' := [(0, .int x)]) [0] rfl ?_
  have hn := hJ.hn
  have hz16 := hJ.2.2.2.2
  refine v_iload_n C 0 dX9_isProgram_0 rfl rfl ?_
  refine v_iconst (v := 0) C dX9_isProgram_1 (by decide) ?_
  refine v_iconst (v := 5) C dX9_isProgram_2 (by decide) ?_
  refine v_cSp C dX9_isProgram_3 lX9_131 mX9_within (t_X9_within l G ad hJ x 0 5) ⟨by decide, by decide⟩ rfl (Nat.le_of_ble_eq_true rfl) ⟨Nat.zero_le _, Nat.zero_le _⟩ (fun r1 hp2 => ?_)
  have := (show (0 : Int32).toInt = 0 by decide)
  have := (show (5 : Int32).toInt = 5 by decide)
  rcases hp2 with ⟨rfl, hp2⟩ | ⟨rfl, hp2⟩
  · exact v_ret C dX9_isProgram_6 rfl rfl ⟨Or.inl ⟨rfl, by omega⟩, rfl⟩
  · exact v_ret C dX9_isProgram_6 rfl rfl ⟨Or.inr ⟨rfl, by omega⟩, rfl⟩

set_option maxRecDepth 20000 in
theorem t_X9_isZone (l : Launch) (G : Gl) (ad : Nat → Nat) {n : Nat} {ic md : Nat → Int32} {bd : Nat → Int × Int} {E0 E : Nat → va_E} (hJ : JM G ad n ic md bd PR E0 E) (x : Int32) : CtI l G yX9_isZone cX9_isZone 2 .boolean 0 0 (n) ad E [.ref (ad 68), .int x] (fun r E' => ((r = 1 ∧ ((0 : Int) ≤ x.toInt ∧ x.toInt < (bd 16).2)) ∨ (r = 0 ∧ ¬ ((0 : Int) ≤ x.toInt ∧ x.toInt < (bd 16).1))) ∧ E = E') := by
  refine CtI.of (by decide) (Nat.le_of_ble_eq_true rfl) (fun X A C => ?_)
  refine v_sub (lv' := [(0, .ref (ad 68)), (1, .int x)]) [0, 1] rfl ?_
  have hn := hJ.hn
  have hz16 := hJ.2.2.2.2
  refine v_iload_n C 1 dX9_isZone_0 rfl rfl ?_
  refine b_if_lt C 16 dX9_isZone_1 (by decide) (rfl : Int32.toInt x = _) (fun c1 => ?_) (fun c1 => ?_)
  · refine v_iconst (v := 0) C dX9_isZone_16 (by decide) ?_
    exact v_ret C dX9_isZone_17 rfl rfl ⟨Or.inr ⟨rfl, by omega⟩, rfl⟩
  · refine v_iload_n C 1 dX9_isZone_4 rfl rfl ?_
    refine v_aload_n C 0 dX9_isZone_5 rfl rfl ?_
    obtain ⟨im2, hM2, hb2⟩ := hJ.1
    have hq2 := hM2.b
    refine v_geti (v := im2 16) C 68 dX9_isZone_6 fX9_135 (by omega) hM2.2.2.1 rfl rfl ?_
    have him2_16r := hb2 16
    have him2_16 : (0 : Int) ≤ (im2 16).toInt ∧ (im2 16).toInt ≤ 5 := by have := hb2 16; omega
    refine b_icmp_ge C 16 dX9_isZone_9 (by decide) (rfl : Int32.toInt x = _) (rfl : Int32.toInt (im2 16) = _) (fun c3 => ?_) (fun c3 => ?_)
    · refine v_iconst (v := 0) C dX9_isZone_16 (by decide) ?_
      exact v_ret C dX9_isZone_17 rfl rfl ⟨Or.inr ⟨rfl, by omega⟩, rfl⟩
    · refine v_iconst (v := 1) C dX9_isZone_12 (by decide) ?_
      refine v_goto C 17 dX9_isZone_13 (by decide) ?_
      exact v_ret C dX9_isZone_17 rfl rfl ⟨Or.inl ⟨rfl, by omega⟩, rfl⟩

set_option maxRecDepth 20000 in
theorem t_X9_forget (l : Launch) (G : Gl) (ad : Nat → Nat) {n : Nat} {ic md : Nat → Int32} {bd : Nat → Int × Int} {E0 E : Nat → va_E} (hJ : JM G ad n ic md bd PR E0 E) : CtV l G yX9_forget cX9_forget 2 0 0 (n) ad E [.ref (ad 68)] (fun E' => JM G ad n ic md bd PR E0 E') := by
  refine CtV.of (by decide) (Nat.le_of_ble_eq_true rfl) (fun X A C => ?_)
  refine v_sub (lv' := [(0, .ref (ad 68))]) [0] rfl ?_
  have hn := hJ.hn
  have hz16 := hJ.2.2.2.2
  refine v_iconst (v := 0) C dX9_forget_0 (by decide) ?_
  refine v_istore_n (lv' := [(0, .ref (ad 68)), (1, .int 0)]) C [1, 0] dX9_forget_1 rfl (by decide) rfl ?_
  have LP1 : ∀ (t : Nat) (E3 : Nat → va_E) (y2 : Int32), JM G ad n ic md bd PR E0 E3 → ((0 : Int) ≤ y2.toInt ∧ y2.toInt ≤ 5) → 6 - y2.toInt < (t : Int) → V X G A 2 (QV X G A (n) ad (fun E' => JM G ad n ic md bd PR E0 E')) n ad 0 0 E3 2 [(0, .ref (ad 68)), (1, .int y2)] [] := by
    intro t7
    induction t7 with
    | zero => intro E3 y2 hJ4 hy2 hm6; exfalso; omega
    | succ t7 ih5 =>
      intro E3 y2 hJ4 hy2 hm6
      refine v_iload_n C 1 dX9_forget_2 rfl rfl ?_
      refine v_iconst (v := 5) C dX9_forget_3 (by decide) ?_
      refine b_icmp_ge C 20 dX9_forget_4 (by decide) (rfl : Int32.toInt y2 = _) (show (5 : Int32).toInt = 5 by decide) (fun c8 => ?_) (fun c8 => ?_)
      · exact v_vret C dX9_forget_20 rfl hJ4
      · refine v_aload_n C 0 dX9_forget_7 rfl rfl ?_
        obtain ⟨im9, hM9, hb9⟩ := hJ4.1
        have hq9 := hM9.b
        refine v_getr C 68 dX9_forget_8 fX9_57 (by omega) hM9.2.2.1 rfl rfl ?_
        refine v_iload_n C 1 dX9_forget_11 rfl rfl ?_
        refine v_iconst (v := 0) C dX9_forget_12 (by decide) ?_
        obtain ⟨f11, hE11, hb11⟩ := hJ4.2.1.getB (b := 79) (by omega) rfl
        refine v_zast C 79 dX9_forget_13 (by omega) hE11 (ti_in (rfl : Int32.toInt y2 = _) (by omega) (by omega)) rfl (fun E12 hE12_79 oE12 => ?_)
        rw [ti_cl (rfl : Int32.toInt y2 = _)] at hE12_79
        have hE12_68 := (oE12 68 (by decide)).trans hM9.2.2.1
        have hJ13 := hJ4.with (hJ4.2.1.setB rfl (by unfold PR; omega) hb11 (by decide) hE12_79 oE12) (oE12 68 (by decide)) (oE12 69 (by decide)) (oE12 70 (by decide))
        have hM14 := hM9.of (oE12 68 (by decide)) (oE12 69 (by decide)) (oE12 70 (by decide))
        obtain ⟨x15, ex15⟩ : ∃ y : Int32, y = y2 + 1 := ⟨_, rfl⟩
        have hx15 : x15.toInt = (y2.toInt + 1) := by rw [ex15]; exact ti_add (rfl : Int32.toInt y2 = _) (show (1 : Int32).toInt = 1 by decide) (by omega) (by omega)
        refine v_iinc (v := x15) (lv' := [(0, .ref (ad 68)), (1, .int x15)]) C 1 [1, 0] dX9_forget_14 rfl (ex15.symm) (by decide) rfl ?_
        refine v_goto C 2 dX9_forget_17 (by decide) ?_
        exact ih5 _ x15 hJ13 (by have := hx15; omega) (by have := hx15; omega)
  exact LP1 100000 _ 0 hJ (by have := (show (0 : Int32).toInt = 0 by decide); omega) (by have := (show (0 : Int32).toInt = 0 by decide); omega)

set_option maxRecDepth 20000 in
theorem t_X9_weekday (l : Launch) (G : Gl) (ad : Nat → Nat) {n : Nat} {ic md : Nat → Int32} {bd : Nat → Int × Int} {E0 E : Nat → va_E} (hJ : JM G ad n ic md bd PR E0 E) (x : Int32) : CtI l G yX9_weekday cX9_weekday 2 .int 0 0 (n) ad E [.ref (ad 68), .int x] (fun r E' => ((-2147483648 : Int) ≤ r.toInt ∧ r.toInt ≤ 2147483647) ∧ E = E') := by
  refine CtI.of (by decide) (Nat.le_of_ble_eq_true rfl) (fun X A C => ?_)
  refine v_sub (lv' := [(0, .ref (ad 68)), (1, .int x)]) [0, 1] rfl ?_
  have hn := hJ.hn
  have hz16 := hJ.2.2.2.2
  refine v_iload_n C 1 dX9_weekday_0 rfl rfl ?_
  refine v_aload_n C 0 dX9_weekday_1 rfl rfl ?_
  obtain ⟨im1, hM1, hb1⟩ := hJ.1
  have hq1 := hM1.b
  refine v_geti (v := im1 5) C 68 dX9_weekday_2 fX9_138 (by omega) hM1.2.2.1 rfl rfl ?_
  refine v_iadd C dX9_weekday_5 ?_
  refine v_top (fun x2 _ => ?_)
  refine v_aload_n C 0 dX9_weekday_6 rfl rfl ?_
  refine v_geti (v := im1 4) C 68 dX9_weekday_7 fX9_23 (by omega) hM1.2.2.1 rfl rfl ?_
  refine v_irem C dX9_weekday_10 (ti_ne (rfl : Int32.toInt (im1 4) = _) (show (0 : Int32).toInt = 0 by decide) (by omega)) ?_
  refine v_top (fun x3 _ => ?_)
  exact v_ret C dX9_weekday_11 rfl rfl ⟨(ti_any x3), rfl⟩

set_option maxRecDepth 20000 in
theorem t_X9_monthOf (l : Launch) (G : Gl) (ad : Nat → Nat) {n : Nat} {ic md : Nat → Int32} {bd : Nat → Int × Int} {E0 E : Nat → va_E} (hJ : JM G ad n ic md bd PR E0 E) (x : Int32) : CtI l G yX9_monthOf cX9_monthOf 5 .int 2 44 (n) ad E [.ref (ad 68), .int x] (fun r E' => ((0 : Int) ≤ r.toInt ∧ r.toInt ≤ 1199) ∧ JM G ad n ic md bd PR E0 E') := by
  refine CtI.of (by decide) (Nat.le_of_ble_eq_true rfl) (fun X A C => ?_)
  refine v_sub (lv' := [(0, .ref (ad 68)), (1, .int x)]) [0, 1] rfl ?_
  have hn := hJ.hn
  have hz16 := hJ.2.2.2.2
  refine v_aload_n C 0 dX9_monthOf_0 rfl rfl ?_
  obtain ⟨im5, hM5, hb5⟩ := hJ.1
  have hq5 := hM5.b
  refine v_cVv C dX9_monthOf_1 lX9_124 mX9_countDays 68 (by omega) hM5.2.2.1 (by decide) rfl (d_countDays l G _ ad _ hn hM5 ) ⟨by decide, by decide⟩ rfl (Nat.le_of_ble_eq_true rfl) ⟨Nat.zero_le _, Nat.zero_le _⟩ (fun E2 hq3 => ?_)
  have hJ4 := hJ.mr hb5 (by unfold PR; omega) (by unfold PR; omega) (MR1.mr hq3)
  have hcyr1 := cal_y hM5.2.1
  refine v_iconst (v := 0) C dX9_monthOf_4 (by decide) ?_
  refine v_istore_n (lv' := [(0, .ref (ad 68)), (1, .int x), (2, .int 0)]) C [1, 2, 0] dX9_monthOf_5 rfl (by decide) rfl ?_
  refine v_sipush (v := 1199) C dX9_monthOf_6 (by decide) ?_
  refine v_istore_n (lv' := [(0, .ref (ad 68)), (1, .int x), (2, .int 0), (3, .int 1199)]) C [1, 2, 3, 0] dX9_monthOf_9 rfl (by decide) rfl ?_
  have LP6 : ∀ (t : Nat) (E10 : Nat → va_E) (y7 : Int32) (y8 : Int32), JM G ad n ic md bd PR E0 E10 → ((0 : Int) ≤ y7.toInt ∧ y7.toInt ≤ 1199) → ((0 : Int) ≤ y8.toInt ∧ y8.toInt ≤ 1199) → (y7.toInt ≤ y8.toInt) → y8.toInt - y7.toInt < (t : Int) → V X G A 5 (QI X G A (n) ad (fun r E' => ((0 : Int) ≤ r.toInt ∧ r.toInt ≤ 1199) ∧ JM G ad n ic md bd PR E0 E')) n ad 0 0 E10 10 [(0, .ref (ad 68)), (1, .int x), (2, .int y7), (3, .int y8)] [] := by
    intro t14
    induction t14 with
    | zero => intro E10 y7 y8 hJ11 hy7 hy8 hq9 hm13; exfalso; omega
    | succ t14 ih12 =>
      intro E10 y7 y8 hJ11 hy7 hy8 hq9 hm13
      refine v_iload_n C 2 dX9_monthOf_10 rfl rfl ?_
      refine v_iload_n C 3 dX9_monthOf_11 rfl rfl ?_
      refine b_icmp_ge C 49 dX9_monthOf_12 (by decide) (rfl : Int32.toInt y7 = _) (rfl : Int32.toInt y8 = _) (fun c15 => ?_) (fun c15 => ?_)
      · refine v_iload_n C 2 dX9_monthOf_49 rfl rfl ?_
        exact v_ret C dX9_monthOf_50 rfl rfl ⟨(show (0 : Int) ≤ Int32.toInt y7 ∧ Int32.toInt y7 ≤ 1199 by omega), hJ11⟩
      · refine v_iload_n C 2 dX9_monthOf_15 rfl rfl ?_
        refine v_iload_n C 3 dX9_monthOf_16 rfl rfl ?_
        refine v_iadd C dX9_monthOf_17 ?_
        refine v_top (fun x16 ex16 => ?_)
        have hx16 : x16.toInt = (y7.toInt + y8.toInt) := by rw [ex16]; exact ti_add (rfl : Int32.toInt y7 = _) (rfl : Int32.toInt y8 = _) (by omega) (by omega)
        refine v_iconst (v := 1) C dX9_monthOf_18 (by decide) ?_
        refine v_iadd C dX9_monthOf_19 ?_
        refine v_top (fun x17 ex17 => ?_)
        have hx17 : x17.toInt = ((y7.toInt + y8.toInt) + 1) := by rw [ex17]; exact ti_add hx16 (show (1 : Int32).toInt = 1 by decide) (by omega) (by omega)
        refine v_iconst (v := 2) C dX9_monthOf_20 (by decide) ?_
        refine v_idiv C dX9_monthOf_21 (by decide) ?_
        refine v_top (fun x18 ex18 => ?_)
        have hx18 : x18.toInt = (((y7.toInt + y8.toInt) + 1) / 2) := by rw [ex18]; exact ti_div hx17 (show (2 : Int32).toInt = 2 by decide) (by omega) (by omega)
        refine v_istore (lv' := [(0, .ref (ad 68)), (1, .int x), (2, .int y7), (3, .int y8), (4, .int x18)]) C [1, 2, 3, 4, 0] dX9_monthOf_22 (by decide) rfl ?_
        refine v_aload_n C 0 dX9_monthOf_24 rfl rfl ?_
        obtain ⟨im19, hM19, hb19⟩ := hJ11.1
        have hq19 := hM19.b
        refine v_getr C 68 dX9_monthOf_25 fX9_26 (by omega) hM19.2.2.1 rfl rfl ?_
        refine v_iload C 4 dX9_monthOf_28 rfl ?_
        obtain ⟨mf20, hE20, -, -⟩ := hM19.2.2.2.2.2
        refine v_ald (v := mf20 ((((y7.toInt + y8.toInt) + 1) / 2)).toNat) C 70 dX9_monthOf_30 (by omega) hE20 (ti_in hx18 (by omega) (by omega)) (by rw [ti_cl hx18]) ?_
        refine v_top (fun x21 _ => ?_)
        refine v_iload_n C 1 dX9_monthOf_31 rfl rfl ?_
        refine b_icmp_gt C 41 dX9_monthOf_32 (by decide) (rfl : Int32.toInt x21 = _) (rfl : Int32.toInt x = _) (fun c22 => ?_) (fun c22 => ?_)
        · refine v_iload C 4 dX9_monthOf_41 rfl ?_
          refine v_iconst (v := 1) C dX9_monthOf_43 (by decide) ?_
          refine v_isub C dX9_monthOf_44 ?_
          refine v_top (fun x23 ex23 => ?_)
          have hx23 : x23.toInt = ((((y7.toInt + y8.toInt) + 1) / 2) - 1) := by rw [ex23]; exact ti_sub hx18 (show (1 : Int32).toInt = 1 by decide) (by omega) (by omega)
          refine v_istore_n (lv' := [(0, .ref (ad 68)), (1, .int x), (2, .int y7), (3, .int x23), (4, .int x18)]) C [1, 2, 3, 0, 4] dX9_monthOf_45 rfl (by decide) rfl ?_
          refine v_goto C 10 dX9_monthOf_46 (by decide) ?_
          refine v_sub (lv' := [(0, .ref (ad 68)), (1, .int x), (2, .int y7), (3, .int x23)]) [0, 1, 2, 3] rfl ?_
          exact ih12 _ y7 x23 hJ11 (by have := hx23; omega) (by have := hx23; omega) (by have := hx23; omega) (by have := hx23; omega)
        · refine v_iload C 4 dX9_monthOf_35 rfl ?_
          refine v_istore_n (lv' := [(0, .ref (ad 68)), (1, .int x), (2, .int x18), (3, .int y8), (4, .int x18)]) C [1, 2, 0, 3, 4] dX9_monthOf_37 rfl (by decide) rfl ?_
          refine v_goto C 46 dX9_monthOf_38 (by decide) ?_
          refine v_goto C 10 dX9_monthOf_46 (by decide) ?_
          refine v_sub (lv' := [(0, .ref (ad 68)), (1, .int x), (2, .int x18), (3, .int y8)]) [0, 1, 2, 3] rfl ?_
          exact ih12 _ x18 y8 hJ11 (by have := hx18; omega) (by have := hx18; omega) (by have := hx18; omega) (by have := hx18; omega)
  exact LP6 100000 _ 0 1199 hJ4 (by have := (show (0 : Int32).toInt = 0 by decide); have := (show (1199 : Int32).toInt = 1199 by decide); omega) (by have := (show (0 : Int32).toInt = 0 by decide); have := (show (1199 : Int32).toInt = 1199 by decide); omega) (by have := (show (0 : Int32).toInt = 0 by decide); have := (show (1199 : Int32).toInt = 1199 by decide); omega) (by have := (show (0 : Int32).toInt = 0 by decide); have := (show (1199 : Int32).toInt = 1199 by decide); omega)

set_option maxRecDepth 20000 in
theorem t_X9_later (l : Launch) (G : Gl) (ad : Nat → Nat) {n : Nat} {ic md : Nat → Int32} {bd : Nat → Int × Int} {E0 E : Nat → va_E} (hJ : JM G ad n ic md bd PR E0 E) (x : Int32) (y : Int32) (z : Int32) : CtI l G yX9_later cX9_later 9 .int 4 85 (n) ad E [.ref (ad 68), .int x, .int y, .int z] (fun r E' => ((-2147483648 : Int) ≤ r.toInt ∧ r.toInt ≤ 2147483647) ∧ JM G ad n ic md bd PR E0 E') := by
  refine CtI.of (by decide) (Nat.le_of_ble_eq_true rfl) (fun X A C => ?_)
  refine v_sub (lv' := [(0, .ref (ad 68)), (1, .int x), (2, .int y), (3, .int z)]) [0, 1, 2, 3] rfl ?_
  have hn := hJ.hn
  have hz16 := hJ.2.2.2.2
  refine v_aload_n C 0 dX9_later_0 rfl rfl ?_
  refine v_iload_n C 1 dX9_later_1 rfl rfl ?_
  obtain ⟨im5, hM5, hb5⟩ := hJ.1
  have hq5 := hM5.b
  refine v_cVi C dX9_later_2 lX9_145 mX9_monthOf 68 (by omega) hM5.2.2.1 (by decide) rfl (t_X9_monthOf l G ad hJ x) ⟨by decide, by decide⟩ rfl (Nat.le_of_ble_eq_true rfl) ⟨Nat.zero_le _, Nat.zero_le _⟩ (fun r1 E2 hp3 => ?_)
  obtain ⟨hp3, hJ4⟩ := hp3
  refine v_istore (lv' := [(0, .ref (ad 68)), (1, .int x), (2, .int y), (3, .int z), (4, .int r1)]) C [1, 2, 3, 4, 0] dX9_later_5 (by decide) rfl ?_
  refine v_iload_n C 1 dX9_later_7 rfl rfl ?_
  refine v_aload_n C 0 dX9_later_8 rfl rfl ?_
  obtain ⟨im6, hM6, hb6⟩ := hJ4.1
  have hq6 := hM6.b
  refine v_getr C 68 dX9_later_9 fX9_26 (by omega) hM6.2.2.1 rfl rfl ?_
  refine v_iload C 4 dX9_later_12 rfl ?_
  obtain ⟨mf7, hE7, -, -⟩ := hM6.2.2.2.2.2
  refine v_ald (v := mf7 (r1.toInt).toNat) C 70 dX9_later_14 (by omega) hE7 (ti_in (rfl : Int32.toInt r1 = _) (by omega) (by omega)) (by rw [ti_cl (rfl : Int32.toInt r1 = _)]) ?_
  refine v_top (fun x8 _ => ?_)
  refine v_isub C dX9_later_15 ?_
  refine v_top (fun x9 _ => ?_)
  refine v_istore (lv' := [(0, .ref (ad 68)), (1, .int x), (2, .int y), (3, .int z), (4, .int r1), (5, .int x9)]) C [1, 2, 3, 4, 5, 0] dX9_later_16 (by decide) rfl ?_
  refine v_iload C 4 dX9_later_18 rfl ?_
  refine v_iload_n C 2 dX9_later_20 rfl rfl ?_
  refine v_iadd C dX9_later_21 ?_
  refine v_top (fun x10 _ => ?_)
  refine v_istore (lv' := [(0, .ref (ad 68)), (1, .int x), (2, .int y), (3, .int z), (4, .int r1), (5, .int x9), (6, .int x10)]) C [1, 2, 3, 4, 5, 6, 0] dX9_later_22 (by decide) rfl ?_
  refine v_iload C 6 dX9_later_24 rfl ?_
  refine b_if_lt C 37 dX9_later_26 (by decide) (rfl : Int32.toInt x10 = _) (fun c11 => ?_) (fun c11 => ?_)
  · refine v_iconst (v := (-1)) C dX9_later_37 (by decide) ?_
    exact v_ret C dX9_later_38 rfl rfl ⟨(ti_any (-1)), hJ4⟩
  · refine v_iload C 6 dX9_later_29 rfl ?_
    refine v_sipush (v := 1200) C dX9_later_31 (by decide) ?_
    refine b_icmp_lt C 39 dX9_later_34 (by decide) (rfl : Int32.toInt x10 = _) (show (1200 : Int32).toInt = 1200 by decide) (fun c12 => ?_) (fun c12 => ?_)
    · refine v_aload_n C 0 dX9_later_39 rfl rfl ?_
      refine v_getr C 68 dX9_later_40 fX9_26 (by omega) hM6.2.2.1 rfl rfl ?_
      refine v_iload C 6 dX9_later_43 rfl ?_
      refine v_iconst (v := 1) C dX9_later_45 (by decide) ?_
      refine v_iadd C dX9_later_46 ?_
      refine v_top (fun x13 ex13 => ?_)
      have hx13 : x13.toInt = (x10.toInt + 1) := by rw [ex13]; exact ti_add (rfl : Int32.toInt x10 = _) (show (1 : Int32).toInt = 1 by decide) (by omega) (by omega)
      refine v_ald (v := mf7 ((x10.toInt + 1)).toNat) C 70 dX9_later_47 (by omega) hE7 (ti_in hx13 (by omega) (by omega)) (by rw [ti_cl hx13]) ?_
      refine v_top (fun x14 _ => ?_)
      refine v_aload_n C 0 dX9_later_48 rfl rfl ?_
      refine v_getr C 68 dX9_later_49 fX9_26 (by omega) hM6.2.2.1 rfl rfl ?_
      refine v_iload C 6 dX9_later_52 rfl ?_
      refine v_ald (v := mf7 (x10.toInt).toNat) C 70 dX9_later_54 (by omega) hE7 (ti_in (rfl : Int32.toInt x10 = _) (by omega) (by omega)) (by rw [ti_cl (rfl : Int32.toInt x10 = _)]) ?_
      refine v_top (fun x15 _ => ?_)
      refine v_isub C dX9_later_55 ?_
      refine v_top (fun x16 _ => ?_)
      refine v_istore (lv' := [(0, .ref (ad 68)), (1, .int x), (2, .int y), (3, .int z), (4, .int r1), (5, .int x9), (6, .int x10), (7, .int x16)]) C [1, 2, 3, 4, 5, 6, 7, 0] dX9_later_56 (by decide) rfl ?_
      refine v_iload C 5 dX9_later_58 rfl ?_
      refine v_iload C 7 dX9_later_60 rfl ?_
      refine b_icmp_ge C 76 dX9_later_62 (by decide) (rfl : Int32.toInt x9 = _) (rfl : Int32.toInt x16 = _) (fun c17 => ?_) (fun c17 => ?_)
      · refine v_iload_n C 3 dX9_later_76 rfl rfl ?_
        refine b_if_ne C 92 dX9_later_77 (by decide) (rfl : Int32.toInt z = _) (fun c18 => ?_) (fun c18 => ?_)
        · refine v_aload_n C 0 dX9_later_92 rfl rfl ?_
          refine v_getr C 68 dX9_later_93 fX9_26 (by omega) hM6.2.2.1 rfl rfl ?_
          refine v_iload C 6 dX9_later_96 rfl ?_
          refine v_ald (v := mf7 (x10.toInt).toNat) C 70 dX9_later_98 (by omega) hE7 (ti_in (rfl : Int32.toInt x10 = _) (by omega) (by omega)) (by rw [ti_cl (rfl : Int32.toInt x10 = _)]) ?_
          refine v_top (fun x19 _ => ?_)
          refine v_iload C 5 dX9_later_99 rfl ?_
          refine v_iadd C dX9_later_101 ?_
          refine v_top (fun x20 _ => ?_)
          refine v_istore (lv' := [(0, .ref (ad 68)), (1, .int x), (2, .int y), (3, .int z), (4, .int r1), (5, .int x9), (6, .int x10), (7, .int x16), (8, .int x20)]) C [1, 2, 3, 4, 5, 6, 7, 8, 0] dX9_later_102 (by decide) rfl ?_
          refine v_iload_n C 3 dX9_later_104 rfl rfl ?_
          refine v_iconst (v := 1) C dX9_later_105 (by decide) ?_
          refine b_icmp_ne C 123 dX9_later_106 (by decide) (rfl : Int32.toInt z = _) (show (1 : Int32).toInt = 1 by decide) (fun c21 => ?_) (fun c21 => ?_)
          · refine v_iconst (v := (-1)) C dX9_later_123 (by decide) ?_
            exact v_ret C dX9_later_124 rfl rfl ⟨(ti_any (-1)), hJ4⟩
          · refine v_aload_n C 0 dX9_later_109 rfl rfl ?_
            refine v_iload C 8 dX9_later_110 rfl ?_
            refine v_cVi C dX9_later_112 lX9_141 mX9_isDay 68 (by omega) hM6.2.2.1 (by decide) rfl (d_isDay l G _ ad _ hn hM6 x20) ⟨by decide, by decide⟩ rfl (Nat.le_of_ble_eq_true rfl) ⟨Nat.zero_le _, Nat.zero_le _⟩ (fun r22 E23 hq24 => ?_)
            obtain ⟨hq24, hq24m⟩ := hq24
            have hJ25 := hJ4.mr hb6 (by unfold PR; omega) (by unfold PR; omega) hq24m
            have hcyr22 := cal_y hM6.2.1
            rcases hq24 with ⟨rfl, hq24⟩ | ⟨rfl, hq24⟩
            · refine b_if_eq C 123 dX9_later_115 (by decide) (show (1 : Int32).toInt = 1 by decide) (fun c26 => absurd c26 (by decide)) (fun c26 => ?_)
              refine v_iload C 8 dX9_later_118 rfl ?_
              refine v_goto C 124 dX9_later_120 (by decide) ?_
              exact v_ret C dX9_later_124 rfl rfl ⟨(ti_any x20), hJ25⟩
            · refine b_if_eq C 123 dX9_later_115 (by decide) (show (0 : Int32).toInt = 0 by decide) (fun c27 => ?_) (fun c27 => absurd c27 (by decide))
              refine v_iconst (v := (-1)) C dX9_later_123 (by decide) ?_
              exact v_ret C dX9_later_124 rfl rfl ⟨(ti_any (-1)), hJ25⟩
        · refine v_aload_n C 0 dX9_later_80 rfl rfl ?_
          refine v_getr C 68 dX9_later_81 fX9_26 (by omega) hM6.2.2.1 rfl rfl ?_
          refine v_iload C 6 dX9_later_84 rfl ?_
          refine v_iconst (v := 1) C dX9_later_86 (by decide) ?_
          refine v_iadd C dX9_later_87 ?_
          refine v_top (fun x28 ex28 => ?_)
          have hx28 : x28.toInt = (x10.toInt + 1) := by rw [ex28]; exact ti_add (rfl : Int32.toInt x10 = _) (show (1 : Int32).toInt = 1 by decide) (by omega) (by omega)
          refine v_ald (v := mf7 ((x10.toInt + 1)).toNat) C 70 dX9_later_88 (by omega) hE7 (ti_in hx28 (by omega) (by omega)) (by rw [ti_cl hx28]) ?_
          refine v_top (fun x29 _ => ?_)
          refine v_iconst (v := 1) C dX9_later_89 (by decide) ?_
          refine v_isub C dX9_later_90 ?_
          refine v_top (fun x30 _ => ?_)
          exact v_ret C dX9_later_91 rfl rfl ⟨(ti_any x30), hJ4⟩
      · refine v_aload_n C 0 dX9_later_65 rfl rfl ?_
        refine v_getr C 68 dX9_later_66 fX9_26 (by omega) hM6.2.2.1 rfl rfl ?_
        refine v_iload C 6 dX9_later_69 rfl ?_
        refine v_ald (v := mf7 (x10.toInt).toNat) C 70 dX9_later_71 (by omega) hE7 (ti_in (rfl : Int32.toInt x10 = _) (by omega) (by omega)) (by rw [ti_cl (rfl : Int32.toInt x10 = _)]) ?_
        refine v_top (fun x31 _ => ?_)
        refine v_iload C 5 dX9_later_72 rfl ?_
        refine v_iadd C dX9_later_74 ?_
        refine v_top (fun x32 _ => ?_)
        exact v_ret C dX9_later_75 rfl rfl ⟨(ti_any x32), hJ4⟩
    · refine v_iconst (v := (-1)) C dX9_later_37 (by decide) ?_
      exact v_ret C dX9_later_38 rfl rfl ⟨(ti_any (-1)), hJ4⟩

set_option maxRecDepth 20000 in
theorem t_X9_nthOf (l : Launch) (G : Gl) (ad : Nat → Nat) {n : Nat} {ic md : Nat → Int32} {bd : Nat → Int × Int} {E0 E : Nat → va_E} (hJ : JM G ad n ic md bd PR E0 E) (x : Int32) (hx : (0 : Int) ≤ x.toInt ∧ x.toInt ≤ 1199) (y : Int32) (z : Int32) : CtI l G yX9_nthOf cX9_nthOf 7 .int 2 44 (n) ad E [.ref (ad 68), .int x, .int y, .int z] (fun r E' => ((-2147483648 : Int) ≤ r.toInt ∧ r.toInt ≤ 2147483647) ∧ JM G ad n ic md bd PR E0 E') := by
  refine CtI.of (by decide) (Nat.le_of_ble_eq_true rfl) (fun X A C => ?_)
  refine v_sub (lv' := [(0, .ref (ad 68)), (1, .int x), (2, .int y), (3, .int z)]) [0, 1, 2, 3] rfl ?_
  have hn := hJ.hn
  have hz16 := hJ.2.2.2.2
  refine v_aload_n C 0 dX9_nthOf_0 rfl rfl ?_
  obtain ⟨im5, hM5, hb5⟩ := hJ.1
  have hq5 := hM5.b
  refine v_cVv C dX9_nthOf_1 lX9_124 mX9_countDays 68 (by omega) hM5.2.2.1 (by decide) rfl (d_countDays l G _ ad _ hn hM5 ) ⟨by decide, by decide⟩ rfl (Nat.le_of_ble_eq_true rfl) ⟨Nat.zero_le _, Nat.zero_le _⟩ (fun E2 hq3 => ?_)
  have hJ4 := hJ.mr hb5 (by unfold PR; omega) (by unfold PR; omega) (MR1.mr hq3)
  have hcyr1 := cal_y hM5.2.1
  refine v_iconst (v := (-1)) C dX9_nthOf_4 (by decide) ?_
  refine v_istore (lv' := [(0, .ref (ad 68)), (1, .int x), (2, .int y), (3, .int z), (4, .int (-1))]) C [1, 2, 3, 4, 0] dX9_nthOf_5 (by decide) rfl ?_
  refine v_iconst (v := 0) C dX9_nthOf_7 (by decide) ?_
  refine v_istore (lv' := [(0, .ref (ad 68)), (1, .int x), (2, .int y), (3, .int z), (4, .int (-1)), (5, .int 0)]) C [1, 2, 3, 4, 5, 0] dX9_nthOf_8 (by decide) rfl ?_
  refine v_aload_n C 0 dX9_nthOf_10 rfl rfl ?_
  obtain ⟨im6, hM6, hb6⟩ := hJ4.1
  have hq6 := hM6.b
  refine v_getr C 68 dX9_nthOf_11 fX9_26 (by omega) hM6.2.2.1 rfl rfl ?_
  refine v_iload_n C 1 dX9_nthOf_14 rfl rfl ?_
  obtain ⟨mf7, hE7, -, -⟩ := hM6.2.2.2.2.2
  refine v_ald (v := mf7 (x.toInt).toNat) C 70 dX9_nthOf_15 (by omega) hE7 (ti_in (rfl : Int32.toInt x = _) (by omega) (by omega)) (by rw [ti_cl (rfl : Int32.toInt x = _)]) ?_
  refine v_top (fun x8 _ => ?_)
  refine v_istore (lv' := [(0, .ref (ad 68)), (1, .int x), (2, .int y), (3, .int z), (4, .int (-1)), (5, .int 0), (6, .int x8)]) C [1, 2, 3, 4, 5, 6, 0] dX9_nthOf_16 (by decide) rfl ?_
  have LP9 : ∀ (t : Nat) (y10 : Int32) (y11 : Int32) (y12 : Int32), ((-2147483648 : Int) ≤ y12.toInt) → (y12.toInt ≤ 2147483647) → 2147483648 - y12.toInt < (t : Int) → V X G A 7 (QI X G A (n) ad (fun r E' => ((-2147483648 : Int) ≤ r.toInt ∧ r.toInt ≤ 2147483647) ∧ JM G ad n ic md bd PR E0 E')) n ad 0 0 E2 18 [(0, .ref (ad 68)), (1, .int x), (2, .int y), (3, .int z), (4, .int y10), (5, .int y11), (6, .int y12)] [] := by
    intro t19
    induction t19 with
    | zero => intro y10 y11 y12 hq13 hq14 hm18; exfalso; omega
    | succ t19 ih17 =>
      intro y10 y11 y12 hq13 hq14 hm18
      refine v_iload C 6 dX9_nthOf_18 rfl ?_
      refine v_aload_n C 0 dX9_nthOf_20 rfl rfl ?_
      refine v_getr C 68 dX9_nthOf_21 fX9_26 (by omega) hM6.2.2.1 rfl rfl ?_
      refine v_iload_n C 1 dX9_nthOf_24 rfl rfl ?_
      refine v_iconst (v := 1) C dX9_nthOf_25 (by decide) ?_
      refine v_iadd C dX9_nthOf_26 ?_
      refine v_top (fun x20 ex20 => ?_)
      have hx20 : x20.toInt = (x.toInt + 1) := by rw [ex20]; exact ti_add (rfl : Int32.toInt x = _) (show (1 : Int32).toInt = 1 by decide) (by omega) (by omega)
      refine v_ald (v := mf7 ((x.toInt + 1)).toNat) C 70 dX9_nthOf_27 (by omega) hE7 (ti_in hx20 (by omega) (by omega)) (by rw [ti_cl hx20]) ?_
      refine v_top (fun x21 _ => ?_)
      have := ti_any x21
      refine b_icmp_ge C 70 dX9_nthOf_28 (by decide) (rfl : Int32.toInt y12 = _) (rfl : Int32.toInt x21 = _) (fun c22 => ?_) (fun c22 => ?_)
      · refine v_iload C 4 dX9_nthOf_70 rfl ?_
        exact v_ret C dX9_nthOf_72 rfl rfl ⟨(ti_any y10), hJ4⟩
      · refine v_aload_n C 0 dX9_nthOf_31 rfl rfl ?_
        refine v_iload C 6 dX9_nthOf_32 rfl ?_
        refine v_cVp C dX9_nthOf_34 lX9_149 mX9_weekday 68 (by omega) hM6.2.2.1 (by decide) rfl (t_X9_weekday l G ad hJ4 y12) ⟨by decide, by decide⟩ rfl (Nat.le_of_ble_eq_true rfl) ⟨Nat.zero_le _, Nat.zero_le _⟩ (fun r23 hp24 => ?_)
        refine v_iload_n C 2 dX9_nthOf_37 rfl rfl ?_
        refine b_icmp_ne C 64 dX9_nthOf_38 (by decide) (rfl : Int32.toInt r23 = _) (rfl : Int32.toInt y = _) (fun c25 => ?_) (fun c25 => ?_)
        · have hz6 := ti_any y12
          obtain ⟨x26, ex26⟩ : ∃ y : Int32, y = y12 + 1 := ⟨_, rfl⟩
          have := ti_any y12
          have hx26 : x26.toInt = (y12.toInt + 1) := by rw [ex26]; exact ti_add (rfl : Int32.toInt y12 = _) (show (1 : Int32).toInt = 1 by decide) (by omega) (by omega)
          refine v_iinc (v := x26) (lv' := [(0, .ref (ad 68)), (1, .int x), (2, .int y), (3, .int z), (4, .int y10), (5, .int y11), (6, .int x26)]) C 6 [1, 2, 3, 4, 5, 6, 0] dX9_nthOf_64 rfl (ex26.symm) (by decide) rfl ?_
          refine v_goto C 18 dX9_nthOf_67 (by decide) ?_
          exact ih17 y10 y11 x26  (by have := ti_any y10; have := ti_any y11; have := hx26; omega) (by have := ti_any y10; have := ti_any y11; have := hx26; omega) (by have := ti_any y10; have := ti_any y11; have := hx26; omega)
        · refine v_iload_n C 3 dX9_nthOf_41 rfl rfl ?_
          refine v_iconst (v := 4) C dX9_nthOf_42 (by decide) ?_
          refine b_icmp_eq C 52 dX9_nthOf_43 (by decide) (rfl : Int32.toInt z = _) (show (4 : Int32).toInt = 4 by decide) (fun c27 => ?_) (fun c27 => ?_)
          · refine v_iload C 6 dX9_nthOf_52 rfl ?_
            refine v_goto C 59 dX9_nthOf_54 (by decide) ?_
            refine v_istore (lv' := [(0, .ref (ad 68)), (1, .int x), (2, .int y), (3, .int z), (4, .int y12), (5, .int y11), (6, .int y12)]) C [1, 2, 3, 4, 0, 5, 6] dX9_nthOf_59 (by decide) rfl ?_
            obtain ⟨x28, ex28⟩ : ∃ y : Int32, y = y11 + 1 := ⟨_, rfl⟩
            refine v_iinc (v := x28) (lv' := [(0, .ref (ad 68)), (1, .int x), (2, .int y), (3, .int z), (4, .int y12), (5, .int x28), (6, .int y12)]) C 5 [1, 2, 3, 4, 5, 0, 6] dX9_nthOf_61 rfl (ex28.symm) (by decide) rfl ?_
            have hz6 := ti_any y12
            obtain ⟨x29, ex29⟩ : ∃ y : Int32, y = y12 + 1 := ⟨_, rfl⟩
            have := ti_any y12
            have hx29 : x29.toInt = (y12.toInt + 1) := by rw [ex29]; exact ti_add (rfl : Int32.toInt y12 = _) (show (1 : Int32).toInt = 1 by decide) (by omega) (by omega)
            refine v_iinc (v := x29) (lv' := [(0, .ref (ad 68)), (1, .int x), (2, .int y), (3, .int z), (4, .int y12), (5, .int x28), (6, .int x29)]) C 6 [1, 2, 3, 4, 5, 6, 0] dX9_nthOf_64 rfl (ex29.symm) (by decide) rfl ?_
            refine v_goto C 18 dX9_nthOf_67 (by decide) ?_
            exact ih17 y12 x28 x29  (by have := ti_any x28; have := hx29; omega) (by have := ti_any x28; have := hx29; omega) (by have := ti_any x28; have := hx29; omega)
          · refine v_iload C 5 dX9_nthOf_46 rfl ?_
            refine v_iload_n C 3 dX9_nthOf_48 rfl rfl ?_
            refine b_icmp_ne C 57 dX9_nthOf_49 (by decide) (rfl : Int32.toInt y11 = _) (rfl : Int32.toInt z = _) (fun c30 => ?_) (fun c30 => ?_)
            · refine v_iload C 4 dX9_nthOf_57 rfl ?_
              refine v_istore (lv' := [(0, .ref (ad 68)), (1, .int x), (2, .int y), (3, .int z), (4, .int y10), (5, .int y11), (6, .int y12)]) C [1, 2, 3, 4, 0, 5, 6] dX9_nthOf_59 (by decide) rfl ?_
              obtain ⟨x31, ex31⟩ : ∃ y : Int32, y = y11 + 1 := ⟨_, rfl⟩
              refine v_iinc (v := x31) (lv' := [(0, .ref (ad 68)), (1, .int x), (2, .int y), (3, .int z), (4, .int y10), (5, .int x31), (6, .int y12)]) C 5 [1, 2, 3, 4, 5, 0, 6] dX9_nthOf_61 rfl (ex31.symm) (by decide) rfl ?_
              have hz6 := ti_any y12
              obtain ⟨x32, ex32⟩ : ∃ y : Int32, y = y12 + 1 := ⟨_, rfl⟩
              have := ti_any y12
              have hx32 : x32.toInt = (y12.toInt + 1) := by rw [ex32]; exact ti_add (rfl : Int32.toInt y12 = _) (show (1 : Int32).toInt = 1 by decide) (by omega) (by omega)
              refine v_iinc (v := x32) (lv' := [(0, .ref (ad 68)), (1, .int x), (2, .int y), (3, .int z), (4, .int y10), (5, .int x31), (6, .int x32)]) C 6 [1, 2, 3, 4, 5, 6, 0] dX9_nthOf_64 rfl (ex32.symm) (by decide) rfl ?_
              refine v_goto C 18 dX9_nthOf_67 (by decide) ?_
              exact ih17 y10 x31 x32  (by have := ti_any y10; have := ti_any x31; have := hx32; omega) (by have := ti_any y10; have := ti_any x31; have := hx32; omega) (by have := ti_any y10; have := ti_any x31; have := hx32; omega)
            · refine v_iload C 6 dX9_nthOf_52 rfl ?_
              refine v_goto C 59 dX9_nthOf_54 (by decide) ?_
              refine v_istore (lv' := [(0, .ref (ad 68)), (1, .int x), (2, .int y), (3, .int z), (4, .int y12), (5, .int y11), (6, .int y12)]) C [1, 2, 3, 4, 0, 5, 6] dX9_nthOf_59 (by decide) rfl ?_
              obtain ⟨x33, ex33⟩ : ∃ y : Int32, y = y11 + 1 := ⟨_, rfl⟩
              refine v_iinc (v := x33) (lv' := [(0, .ref (ad 68)), (1, .int x), (2, .int y), (3, .int z), (4, .int y12), (5, .int x33), (6, .int y12)]) C 5 [1, 2, 3, 4, 5, 0, 6] dX9_nthOf_61 rfl (ex33.symm) (by decide) rfl ?_
              have hz6 := ti_any y12
              obtain ⟨x34, ex34⟩ : ∃ y : Int32, y = y12 + 1 := ⟨_, rfl⟩
              have := ti_any y12
              have hx34 : x34.toInt = (y12.toInt + 1) := by rw [ex34]; exact ti_add (rfl : Int32.toInt y12 = _) (show (1 : Int32).toInt = 1 by decide) (by omega) (by omega)
              refine v_iinc (v := x34) (lv' := [(0, .ref (ad 68)), (1, .int x), (2, .int y), (3, .int z), (4, .int y12), (5, .int x33), (6, .int x34)]) C 6 [1, 2, 3, 4, 5, 6, 0] dX9_nthOf_64 rfl (ex34.symm) (by decide) rfl ?_
              refine v_goto C 18 dX9_nthOf_67 (by decide) ?_
              exact ih17 y12 x33 x34  (by have := ti_any x33; have := hx34; omega) (by have := ti_any x33; have := hx34; omega) (by have := ti_any x33; have := hx34; omega)
  exact LP9 5000000000 (-1) 0 x8  (by have := (show ((-1) : Int32).toInt = (-1) by decide); have := (show (0 : Int32).toInt = 0 by decide); have := ti_any x8; omega) (by have := (show ((-1) : Int32).toInt = (-1) by decide); have := (show (0 : Int32).toInt = 0 by decide); have := ti_any x8; omega) (by have := (show ((-1) : Int32).toInt = (-1) by decide); have := (show (0 : Int32).toInt = 0 by decide); have := ti_any x8; omega)

set_option maxRecDepth 20000 in
theorem t_X9_say (l : Launch) (G : Gl) (ad : Nat → Nat) {n : Nat} {ic md : Nat → Int32} {bd : Nat → Int × Int} {E0 E : Nat → va_E} (hJ : JM G ad n ic md bd PR E0 E) (x : Int32) (hx : (0 : Int) ≤ x.toInt ∧ x.toInt ≤ 799) (y : Int32) (z : Int32) : CtI l G yX9_say cX9_say 6 .int 0 0 (n) ad E [.ref (ad 68), .int x, .int y, .int z] (fun r E' => (((0 : Int) ≤ r.toInt ∧ r.toInt ≤ 800) ∧ (r.toInt ≤ x.toInt + 1)) ∧ JM G ad n ic md bd PR E0 E') := by
  refine CtI.of (by decide) (Nat.le_of_ble_eq_true rfl) (fun X A C => ?_)
  refine v_sub (lv' := [(0, .ref (ad 68)), (1, .int x), (2, .int y), (3, .int z)]) [0, 1, 2, 3] rfl ?_
  have hn := hJ.hn
  have hz16 := hJ.2.2.2.2
  refine v_iload_n C 1 dX9_say_0 rfl rfl ?_
  refine v_istore (lv' := [(0, .ref (ad 68)), (1, .int x), (2, .int y), (3, .int z), (4, .int x)]) C [1, 2, 3, 4, 0] dX9_say_1 (by decide) rfl ?_
  have LP1 : ∀ (t : Nat) (E4 : Nat → va_E) (y2 : Int32), JM G ad n ic md bd PR E0 E4 → ((0 : Int) ≤ y2.toInt ∧ y2.toInt ≤ 799) → (y2.toInt ≤ x.toInt) → y2.toInt < (t : Int) → V X G A 6 (QI X G A (n) ad (fun r E' => (((0 : Int) ≤ r.toInt ∧ r.toInt ≤ 800) ∧ (r.toInt ≤ x.toInt + 1)) ∧ JM G ad n ic md bd PR E0 E')) n ad 0 0 E4 3 [(0, .ref (ad 68)), (1, .int x), (2, .int y), (3, .int z), (4, .int y2)] [] := by
    intro t8
    induction t8 with
    | zero => intro E4 y2 hJ5 hy2 hq3 hm7; exfalso; omega
    | succ t8 ih6 =>
      intro E4 y2 hJ5 hy2 hq3 hm7
      refine v_iload C 4 dX9_say_3 rfl ?_
      refine b_if_le C 27 dX9_say_5 (by decide) (rfl : Int32.toInt y2 = _) (fun c9 => ?_) (fun c9 => ?_)
      · refine v_iload C 4 dX9_say_27 rfl ?_
        refine b_if_le C 57 dX9_say_29 (by decide) (rfl : Int32.toInt y2 = _) (fun c10 => ?_) (fun c10 => ?_)
        · refine v_iload_n C 1 dX9_say_57 rfl rfl ?_
          refine v_istore (lv' := [(0, .ref (ad 68)), (1, .int x), (2, .int y), (3, .int z), (4, .int y2), (5, .int x)]) C [1, 2, 3, 4, 5, 0] dX9_say_58 (by decide) rfl ?_
          have LP11 : ∀ (t : Nat) (E13 : Nat → va_E) (y12 : Int32), JM G ad n ic md bd PR E0 E13 → ((0 : Int) ≤ y12.toInt ∧ y12.toInt ≤ 799) → y12.toInt < (t : Int) → V X G A 6 (QI X G A (n) ad (fun r E' => (((0 : Int) ≤ r.toInt ∧ r.toInt ≤ 800) ∧ (r.toInt ≤ x.toInt + 1)) ∧ JM G ad n ic md bd PR E0 E')) n ad 0 0 E13 60 [(0, .ref (ad 68)), (1, .int x), (2, .int y), (3, .int z), (4, .int y2), (5, .int y12)] [] := by
            intro t17
            induction t17 with
            | zero => intro E13 y12 hJ14 hy12 hm16; exfalso; omega
            | succ t17 ih15 =>
              intro E13 y12 hJ14 hy12 hm16
              refine v_iload C 5 dX9_say_60 rfl ?_
              refine v_iload C 4 dX9_say_62 rfl ?_
              refine b_icmp_le C 105 dX9_say_64 (by decide) (rfl : Int32.toInt y12 = _) (rfl : Int32.toInt y2 = _) (fun c18 => ?_) (fun c18 => ?_)
              · refine v_aload_n C 0 dX9_say_105 rfl rfl ?_
                obtain ⟨im19, hM19, hb19⟩ := hJ14.1
                have hq19 := hM19.b
                refine v_getr C 68 dX9_say_106 fX9_70 (by omega) hM19.2.2.1 rfl rfl ?_
                refine v_iload C 4 dX9_say_109 rfl ?_
                refine v_iload_n C 2 dX9_say_111 rfl rfl ?_
                obtain ⟨f21, hE21, hb21⟩ := hJ14.2.1.getA (b := 83) (by omega) rfl
                refine v_ast C 83 dX9_say_112 (by omega) hE21 (ti_in (rfl : Int32.toInt y2 = _) (by omega) (by omega)) (fun E22 hE22_83 oE22 => ?_)
                rw [ti_cl (rfl : Int32.toInt y2 = _)] at hE22_83
                have hE22_68 := (oE22 68 (by decide)).trans hM19.2.2.1
                have hJ23 := hJ14.with (hJ14.2.1.setA rfl (by unfold PR; omega) hb21 (ti_any y) hE22_83 oE22) (oE22 68 (by decide)) (oE22 69 (by decide)) (oE22 70 (by decide))
                have hM24 := hM19.of (oE22 68 (by decide)) (oE22 69 (by decide)) (oE22 70 (by decide))
                refine v_aload_n C 0 dX9_say_113 rfl rfl ?_
                refine v_getr C 68 dX9_say_114 fX9_73 (by omega) hM24.2.2.1 rfl rfl ?_
                refine v_iload C 4 dX9_say_117 rfl ?_
                refine v_iload_n C 3 dX9_say_119 rfl rfl ?_
                obtain ⟨f26, hE26, hb26⟩ := hJ23.2.1.getA (b := 84) (by omega) rfl
                refine v_ast C 84 dX9_say_120 (by omega) hE26 (ti_in (rfl : Int32.toInt y2 = _) (by omega) (by omega)) (fun E27 hE27_84 oE27 => ?_)
                rw [ti_cl (rfl : Int32.toInt y2 = _)] at hE27_84
                have hE27_68 := (oE27 68 (by decide)).trans hM24.2.2.1
                have hJ28 := hJ23.with (hJ23.2.1.setA rfl (by unfold PR; omega) hb26 (ti_any z) hE27_84 oE27) (oE27 68 (by decide)) (oE27 69 (by decide)) (oE27 70 (by decide))
                have hM29 := hM24.of (oE27 68 (by decide)) (oE27 69 (by decide)) (oE27 70 (by decide))
                refine v_iload_n C 1 dX9_say_121 rfl rfl ?_
                refine v_iconst (v := 1) C dX9_say_122 (by decide) ?_
                refine v_iadd C dX9_say_123 ?_
                refine v_top (fun x30 ex30 => ?_)
                have hx30 : x30.toInt = (x.toInt + 1) := by rw [ex30]; exact ti_add (rfl : Int32.toInt x = _) (show (1 : Int32).toInt = 1 by decide) (by omega) (by omega)
                exact v_ret C dX9_say_124 rfl rfl ⟨⟨(show (0 : Int) ≤ Int32.toInt x30 ∧ Int32.toInt x30 ≤ 800 by have := hx30; omega), (show Int32.toInt x30 ≤ x.toInt + 1 by have := hx30; omega)⟩, hJ28⟩
              · refine v_aload_n C 0 dX9_say_67 rfl rfl ?_
                obtain ⟨im31, hM31, hb31⟩ := hJ14.1
                have hq31 := hM31.b
                refine v_getr C 68 dX9_say_68 fX9_70 (by omega) hM31.2.2.1 rfl rfl ?_
                refine v_iload C 5 dX9_say_71 rfl ?_
                refine v_aload_n C 0 dX9_say_73 rfl rfl ?_
                refine v_getr C 68 dX9_say_74 fX9_70 (by omega) hM31.2.2.1 rfl rfl ?_
                refine v_iload C 5 dX9_say_77 rfl ?_
                refine v_iconst (v := 1) C dX9_say_79 (by decide) ?_
                refine v_isub C dX9_say_80 ?_
                refine v_top (fun x32 ex32 => ?_)
                have hx32 : x32.toInt = (y12.toInt - 1) := by rw [ex32]; exact ti_sub (rfl : Int32.toInt y12 = _) (show (1 : Int32).toInt = 1 by decide) (by omega) (by omega)
                obtain ⟨f34, hE34, hb34⟩ := hJ14.2.1.getA (b := 83) (by omega) rfl
                refine v_ald (v := f34 ((y12.toInt - 1)).toNat) C 83 dX9_say_81 (by omega) hE34 (ti_in hx32 (by omega) (by omega)) (by rw [ti_cl hx32]) ?_
                refine v_top (fun x35 _ => ?_)
                refine v_ast C 83 dX9_say_82 (by omega) hE34 (ti_in (rfl : Int32.toInt y12 = _) (by omega) (by omega)) (fun E36 hE36_83 oE36 => ?_)
                rw [ti_cl (rfl : Int32.toInt y12 = _)] at hE36_83
                have hE36_68 := (oE36 68 (by decide)).trans hM31.2.2.1
                have hJ37 := hJ14.with (hJ14.2.1.setA rfl (by unfold PR; omega) hb34 (ti_any x35) hE36_83 oE36) (oE36 68 (by decide)) (oE36 69 (by decide)) (oE36 70 (by decide))
                have hM38 := hM31.of (oE36 68 (by decide)) (oE36 69 (by decide)) (oE36 70 (by decide))
                refine v_aload_n C 0 dX9_say_83 rfl rfl ?_
                refine v_getr C 68 dX9_say_84 fX9_73 (by omega) hM38.2.2.1 rfl rfl ?_
                refine v_iload C 5 dX9_say_87 rfl ?_
                refine v_aload_n C 0 dX9_say_89 rfl rfl ?_
                refine v_getr C 68 dX9_say_90 fX9_73 (by omega) hM38.2.2.1 rfl rfl ?_
                refine v_iload C 5 dX9_say_93 rfl ?_
                refine v_iconst (v := 1) C dX9_say_95 (by decide) ?_
                refine v_isub C dX9_say_96 ?_
                refine v_top (fun x39 ex39 => ?_)
                have hx39 : x39.toInt = (y12.toInt - 1) := by rw [ex39]; exact ti_sub (rfl : Int32.toInt y12 = _) (show (1 : Int32).toInt = 1 by decide) (by omega) (by omega)
                obtain ⟨f41, hE41, hb41⟩ := hJ37.2.1.getA (b := 84) (by omega) rfl
                refine v_ald (v := f41 ((y12.toInt - 1)).toNat) C 84 dX9_say_97 (by omega) hE41 (ti_in hx39 (by omega) (by omega)) (by rw [ti_cl hx39]) ?_
                refine v_top (fun x42 _ => ?_)
                refine v_ast C 84 dX9_say_98 (by omega) hE41 (ti_in (rfl : Int32.toInt y12 = _) (by omega) (by omega)) (fun E43 hE43_84 oE43 => ?_)
                rw [ti_cl (rfl : Int32.toInt y12 = _)] at hE43_84
                have hE43_68 := (oE43 68 (by decide)).trans hM38.2.2.1
                have hJ44 := hJ37.with (hJ37.2.1.setA rfl (by unfold PR; omega) hb41 (ti_any x42) hE43_84 oE43) (oE43 68 (by decide)) (oE43 69 (by decide)) (oE43 70 (by decide))
                have hM45 := hM38.of (oE43 68 (by decide)) (oE43 69 (by decide)) (oE43 70 (by decide))
                obtain ⟨x46, ex46⟩ : ∃ y : Int32, y = y12 + (-1) := ⟨_, rfl⟩
                have hx46 : x46.toInt = (y12.toInt + (-1)) := by rw [ex46]; exact ti_add (rfl : Int32.toInt y12 = _) (show ((-1) : Int32).toInt = (-1) by decide) (by omega) (by omega)
                refine v_iinc (v := x46) (lv' := [(0, .ref (ad 68)), (1, .int x), (2, .int y), (3, .int z), (4, .int y2), (5, .int x46)]) C 5 [1, 2, 3, 4, 5, 0] dX9_say_99 rfl (ex46.symm) (by decide) rfl ?_
                refine v_goto C 60 dX9_say_102 (by decide) ?_
                exact ih15 _ x46 hJ44 (by have := hx46; omega) (by have := hx46; omega)
          exact LP11 100000 _ x hJ5 (by omega) (by omega)
        · refine v_aload_n C 0 dX9_say_32 rfl rfl ?_
          obtain ⟨im47, hM47, hb47⟩ := hJ5.1
          have hq47 := hM47.b
          refine v_getr C 68 dX9_say_33 fX9_70 (by omega) hM47.2.2.1 rfl rfl ?_
          refine v_iload C 4 dX9_say_36 rfl ?_
          refine v_iconst (v := 1) C dX9_say_38 (by decide) ?_
          refine v_isub C dX9_say_39 ?_
          refine v_top (fun x48 ex48 => ?_)
          have hx48 : x48.toInt = (y2.toInt - 1) := by rw [ex48]; exact ti_sub (rfl : Int32.toInt y2 = _) (show (1 : Int32).toInt = 1 by decide) (by omega) (by omega)
          obtain ⟨f50, hE50, hb50⟩ := hJ5.2.1.getA (b := 83) (by omega) rfl
          refine v_ald (v := f50 ((y2.toInt - 1)).toNat) C 83 dX9_say_40 (by omega) hE50 (ti_in hx48 (by omega) (by omega)) (by rw [ti_cl hx48]) ?_
          refine v_top (fun x51 _ => ?_)
          refine v_iload_n C 2 dX9_say_41 rfl rfl ?_
          refine b_icmp_ne C 57 dX9_say_42 (by decide) (rfl : Int32.toInt x51 = _) (rfl : Int32.toInt y = _) (fun c52 => ?_) (fun c52 => ?_)
          · refine v_iload_n C 1 dX9_say_57 rfl rfl ?_
            refine v_istore (lv' := [(0, .ref (ad 68)), (1, .int x), (2, .int y), (3, .int z), (4, .int y2), (5, .int x)]) C [1, 2, 3, 4, 5, 0] dX9_say_58 (by decide) rfl ?_
            have LP53 : ∀ (t : Nat) (E55 : Nat → va_E) (y54 : Int32), JM G ad n ic md bd PR E0 E55 → ((0 : Int) ≤ y54.toInt ∧ y54.toInt ≤ 799) → y54.toInt < (t : Int) → V X G A 6 (QI X G A (n) ad (fun r E' => (((0 : Int) ≤ r.toInt ∧ r.toInt ≤ 800) ∧ (r.toInt ≤ x.toInt + 1)) ∧ JM G ad n ic md bd PR E0 E')) n ad 0 0 E55 60 [(0, .ref (ad 68)), (1, .int x), (2, .int y), (3, .int z), (4, .int y2), (5, .int y54)] [] := by
              intro t59
              induction t59 with
              | zero => intro E55 y54 hJ56 hy54 hm58; exfalso; omega
              | succ t59 ih57 =>
                intro E55 y54 hJ56 hy54 hm58
                refine v_iload C 5 dX9_say_60 rfl ?_
                refine v_iload C 4 dX9_say_62 rfl ?_
                refine b_icmp_le C 105 dX9_say_64 (by decide) (rfl : Int32.toInt y54 = _) (rfl : Int32.toInt y2 = _) (fun c60 => ?_) (fun c60 => ?_)
                · refine v_aload_n C 0 dX9_say_105 rfl rfl ?_
                  obtain ⟨im61, hM61, hb61⟩ := hJ56.1
                  have hq61 := hM61.b
                  refine v_getr C 68 dX9_say_106 fX9_70 (by omega) hM61.2.2.1 rfl rfl ?_
                  refine v_iload C 4 dX9_say_109 rfl ?_
                  refine v_iload_n C 2 dX9_say_111 rfl rfl ?_
                  obtain ⟨f63, hE63, hb63⟩ := hJ56.2.1.getA (b := 83) (by omega) rfl
                  refine v_ast C 83 dX9_say_112 (by omega) hE63 (ti_in (rfl : Int32.toInt y2 = _) (by omega) (by omega)) (fun E64 hE64_83 oE64 => ?_)
                  rw [ti_cl (rfl : Int32.toInt y2 = _)] at hE64_83
                  have hE64_68 := (oE64 68 (by decide)).trans hM61.2.2.1
                  have hJ65 := hJ56.with (hJ56.2.1.setA rfl (by unfold PR; omega) hb63 (ti_any y) hE64_83 oE64) (oE64 68 (by decide)) (oE64 69 (by decide)) (oE64 70 (by decide))
                  have hM66 := hM61.of (oE64 68 (by decide)) (oE64 69 (by decide)) (oE64 70 (by decide))
                  refine v_aload_n C 0 dX9_say_113 rfl rfl ?_
                  refine v_getr C 68 dX9_say_114 fX9_73 (by omega) hM66.2.2.1 rfl rfl ?_
                  refine v_iload C 4 dX9_say_117 rfl ?_
                  refine v_iload_n C 3 dX9_say_119 rfl rfl ?_
                  obtain ⟨f68, hE68, hb68⟩ := hJ65.2.1.getA (b := 84) (by omega) rfl
                  refine v_ast C 84 dX9_say_120 (by omega) hE68 (ti_in (rfl : Int32.toInt y2 = _) (by omega) (by omega)) (fun E69 hE69_84 oE69 => ?_)
                  rw [ti_cl (rfl : Int32.toInt y2 = _)] at hE69_84
                  have hE69_68 := (oE69 68 (by decide)).trans hM66.2.2.1
                  have hJ70 := hJ65.with (hJ65.2.1.setA rfl (by unfold PR; omega) hb68 (ti_any z) hE69_84 oE69) (oE69 68 (by decide)) (oE69 69 (by decide)) (oE69 70 (by decide))
                  have hM71 := hM66.of (oE69 68 (by decide)) (oE69 69 (by decide)) (oE69 70 (by decide))
                  refine v_iload_n C 1 dX9_say_121 rfl rfl ?_
                  refine v_iconst (v := 1) C dX9_say_122 (by decide) ?_
                  refine v_iadd C dX9_say_123 ?_
                  refine v_top (fun x72 ex72 => ?_)
                  have hx72 : x72.toInt = (x.toInt + 1) := by rw [ex72]; exact ti_add (rfl : Int32.toInt x = _) (show (1 : Int32).toInt = 1 by decide) (by omega) (by omega)
                  exact v_ret C dX9_say_124 rfl rfl ⟨⟨(show (0 : Int) ≤ Int32.toInt x72 ∧ Int32.toInt x72 ≤ 800 by have := hx72; omega), (show Int32.toInt x72 ≤ x.toInt + 1 by have := hx72; omega)⟩, hJ70⟩
                · refine v_aload_n C 0 dX9_say_67 rfl rfl ?_
                  obtain ⟨im73, hM73, hb73⟩ := hJ56.1
                  have hq73 := hM73.b
                  refine v_getr C 68 dX9_say_68 fX9_70 (by omega) hM73.2.2.1 rfl rfl ?_
                  refine v_iload C 5 dX9_say_71 rfl ?_
                  refine v_aload_n C 0 dX9_say_73 rfl rfl ?_
                  refine v_getr C 68 dX9_say_74 fX9_70 (by omega) hM73.2.2.1 rfl rfl ?_
                  refine v_iload C 5 dX9_say_77 rfl ?_
                  refine v_iconst (v := 1) C dX9_say_79 (by decide) ?_
                  refine v_isub C dX9_say_80 ?_
                  refine v_top (fun x74 ex74 => ?_)
                  have hx74 : x74.toInt = (y54.toInt - 1) := by rw [ex74]; exact ti_sub (rfl : Int32.toInt y54 = _) (show (1 : Int32).toInt = 1 by decide) (by omega) (by omega)
                  obtain ⟨f76, hE76, hb76⟩ := hJ56.2.1.getA (b := 83) (by omega) rfl
                  refine v_ald (v := f76 ((y54.toInt - 1)).toNat) C 83 dX9_say_81 (by omega) hE76 (ti_in hx74 (by omega) (by omega)) (by rw [ti_cl hx74]) ?_
                  refine v_top (fun x77 _ => ?_)
                  refine v_ast C 83 dX9_say_82 (by omega) hE76 (ti_in (rfl : Int32.toInt y54 = _) (by omega) (by omega)) (fun E78 hE78_83 oE78 => ?_)
                  rw [ti_cl (rfl : Int32.toInt y54 = _)] at hE78_83
                  have hE78_68 := (oE78 68 (by decide)).trans hM73.2.2.1
                  have hJ79 := hJ56.with (hJ56.2.1.setA rfl (by unfold PR; omega) hb76 (ti_any x77) hE78_83 oE78) (oE78 68 (by decide)) (oE78 69 (by decide)) (oE78 70 (by decide))
                  have hM80 := hM73.of (oE78 68 (by decide)) (oE78 69 (by decide)) (oE78 70 (by decide))
                  refine v_aload_n C 0 dX9_say_83 rfl rfl ?_
                  refine v_getr C 68 dX9_say_84 fX9_73 (by omega) hM80.2.2.1 rfl rfl ?_
                  refine v_iload C 5 dX9_say_87 rfl ?_
                  refine v_aload_n C 0 dX9_say_89 rfl rfl ?_
                  refine v_getr C 68 dX9_say_90 fX9_73 (by omega) hM80.2.2.1 rfl rfl ?_
                  refine v_iload C 5 dX9_say_93 rfl ?_
                  refine v_iconst (v := 1) C dX9_say_95 (by decide) ?_
                  refine v_isub C dX9_say_96 ?_
                  refine v_top (fun x81 ex81 => ?_)
                  have hx81 : x81.toInt = (y54.toInt - 1) := by rw [ex81]; exact ti_sub (rfl : Int32.toInt y54 = _) (show (1 : Int32).toInt = 1 by decide) (by omega) (by omega)
                  obtain ⟨f83, hE83, hb83⟩ := hJ79.2.1.getA (b := 84) (by omega) rfl
                  refine v_ald (v := f83 ((y54.toInt - 1)).toNat) C 84 dX9_say_97 (by omega) hE83 (ti_in hx81 (by omega) (by omega)) (by rw [ti_cl hx81]) ?_
                  refine v_top (fun x84 _ => ?_)
                  refine v_ast C 84 dX9_say_98 (by omega) hE83 (ti_in (rfl : Int32.toInt y54 = _) (by omega) (by omega)) (fun E85 hE85_84 oE85 => ?_)
                  rw [ti_cl (rfl : Int32.toInt y54 = _)] at hE85_84
                  have hE85_68 := (oE85 68 (by decide)).trans hM80.2.2.1
                  have hJ86 := hJ79.with (hJ79.2.1.setA rfl (by unfold PR; omega) hb83 (ti_any x84) hE85_84 oE85) (oE85 68 (by decide)) (oE85 69 (by decide)) (oE85 70 (by decide))
                  have hM87 := hM80.of (oE85 68 (by decide)) (oE85 69 (by decide)) (oE85 70 (by decide))
                  obtain ⟨x88, ex88⟩ : ∃ y : Int32, y = y54 + (-1) := ⟨_, rfl⟩
                  have hx88 : x88.toInt = (y54.toInt + (-1)) := by rw [ex88]; exact ti_add (rfl : Int32.toInt y54 = _) (show ((-1) : Int32).toInt = (-1) by decide) (by omega) (by omega)
                  refine v_iinc (v := x88) (lv' := [(0, .ref (ad 68)), (1, .int x), (2, .int y), (3, .int z), (4, .int y2), (5, .int x88)]) C 5 [1, 2, 3, 4, 5, 0] dX9_say_99 rfl (ex88.symm) (by decide) rfl ?_
                  refine v_goto C 60 dX9_say_102 (by decide) ?_
                  exact ih57 _ x88 hJ86 (by have := hx88; omega) (by have := hx88; omega)
            exact LP53 100000 _ x hJ5 (by omega) (by omega)
          · refine v_aload_n C 0 dX9_say_45 rfl rfl ?_
            refine v_getr C 68 dX9_say_46 fX9_73 (by omega) hM47.2.2.1 rfl rfl ?_
            refine v_iload C 4 dX9_say_49 rfl ?_
            refine v_iconst (v := 1) C dX9_say_51 (by decide) ?_
            refine v_isub C dX9_say_52 ?_
            refine v_top (fun x89 ex89 => ?_)
            have hx89 : x89.toInt = (y2.toInt - 1) := by rw [ex89]; exact ti_sub (rfl : Int32.toInt y2 = _) (show (1 : Int32).toInt = 1 by decide) (by omega) (by omega)
            refine v_iload_n C 3 dX9_say_53 rfl rfl ?_
            obtain ⟨f91, hE91, hb91⟩ := hJ5.2.1.getA (b := 84) (by omega) rfl
            refine v_ast C 84 dX9_say_54 (by omega) hE91 (ti_in hx89 (by omega) (by omega)) (fun E92 hE92_84 oE92 => ?_)
            rw [ti_cl hx89] at hE92_84
            have hE92_68 := (oE92 68 (by decide)).trans hM47.2.2.1
            have hE92_83 := (oE92 83 (by decide)).trans hE50
            have hJ93 := hJ5.with (hJ5.2.1.setA rfl (by unfold PR; omega) hb91 (ti_any z) hE92_84 oE92) (oE92 68 (by decide)) (oE92 69 (by decide)) (oE92 70 (by decide))
            have hM94 := hM47.of (oE92 68 (by decide)) (oE92 69 (by decide)) (oE92 70 (by decide))
            refine v_iload_n C 1 dX9_say_55 rfl rfl ?_
            exact v_ret C dX9_say_56 rfl rfl ⟨⟨(show (0 : Int) ≤ Int32.toInt x ∧ Int32.toInt x ≤ 800 by omega), (show Int32.toInt x ≤ x.toInt + 1 by omega)⟩, hJ93⟩
      · refine v_aload_n C 0 dX9_say_8 rfl rfl ?_
        obtain ⟨im95, hM95, hb95⟩ := hJ5.1
        have hq95 := hM95.b
        refine v_getr C 68 dX9_say_9 fX9_70 (by omega) hM95.2.2.1 rfl rfl ?_
        refine v_iload C 4 dX9_say_12 rfl ?_
        refine v_iconst (v := 1) C dX9_say_14 (by decide) ?_
        refine v_isub C dX9_say_15 ?_
        refine v_top (fun x96 ex96 => ?_)
        have hx96 : x96.toInt = (y2.toInt - 1) := by rw [ex96]; exact ti_sub (rfl : Int32.toInt y2 = _) (show (1 : Int32).toInt = 1 by decide) (by omega) (by omega)
        obtain ⟨f98, hE98, hb98⟩ := hJ5.2.1.getA (b := 83) (by omega) rfl
        refine v_ald (v := f98 ((y2.toInt - 1)).toNat) C 83 dX9_say_16 (by omega) hE98 (ti_in hx96 (by omega) (by omega)) (by rw [ti_cl hx96]) ?_
        refine v_top (fun x99 _ => ?_)
        refine v_iload_n C 2 dX9_say_17 rfl rfl ?_
        refine b_icmp_le C 27 dX9_say_18 (by decide) (rfl : Int32.toInt x99 = _) (rfl : Int32.toInt y = _) (fun c100 => ?_) (fun c100 => ?_)
        · refine v_iload C 4 dX9_say_27 rfl ?_
          refine b_if_le C 57 dX9_say_29 (by decide) (rfl : Int32.toInt y2 = _) (fun c101 => ?_) (fun c101 => ?_)
          · refine v_iload_n C 1 dX9_say_57 rfl rfl ?_
            refine v_istore (lv' := [(0, .ref (ad 68)), (1, .int x), (2, .int y), (3, .int z), (4, .int y2), (5, .int x)]) C [1, 2, 3, 4, 5, 0] dX9_say_58 (by decide) rfl ?_
            have LP102 : ∀ (t : Nat) (E104 : Nat → va_E) (y103 : Int32), JM G ad n ic md bd PR E0 E104 → ((0 : Int) ≤ y103.toInt ∧ y103.toInt ≤ 799) → y103.toInt < (t : Int) → V X G A 6 (QI X G A (n) ad (fun r E' => (((0 : Int) ≤ r.toInt ∧ r.toInt ≤ 800) ∧ (r.toInt ≤ x.toInt + 1)) ∧ JM G ad n ic md bd PR E0 E')) n ad 0 0 E104 60 [(0, .ref (ad 68)), (1, .int x), (2, .int y), (3, .int z), (4, .int y2), (5, .int y103)] [] := by
              intro t108
              induction t108 with
              | zero => intro E104 y103 hJ105 hy103 hm107; exfalso; omega
              | succ t108 ih106 =>
                intro E104 y103 hJ105 hy103 hm107
                refine v_iload C 5 dX9_say_60 rfl ?_
                refine v_iload C 4 dX9_say_62 rfl ?_
                refine b_icmp_le C 105 dX9_say_64 (by decide) (rfl : Int32.toInt y103 = _) (rfl : Int32.toInt y2 = _) (fun c109 => ?_) (fun c109 => ?_)
                · refine v_aload_n C 0 dX9_say_105 rfl rfl ?_
                  obtain ⟨im110, hM110, hb110⟩ := hJ105.1
                  have hq110 := hM110.b
                  refine v_getr C 68 dX9_say_106 fX9_70 (by omega) hM110.2.2.1 rfl rfl ?_
                  refine v_iload C 4 dX9_say_109 rfl ?_
                  refine v_iload_n C 2 dX9_say_111 rfl rfl ?_
                  obtain ⟨f112, hE112, hb112⟩ := hJ105.2.1.getA (b := 83) (by omega) rfl
                  refine v_ast C 83 dX9_say_112 (by omega) hE112 (ti_in (rfl : Int32.toInt y2 = _) (by omega) (by omega)) (fun E113 hE113_83 oE113 => ?_)
                  rw [ti_cl (rfl : Int32.toInt y2 = _)] at hE113_83
                  have hE113_68 := (oE113 68 (by decide)).trans hM110.2.2.1
                  have hJ114 := hJ105.with (hJ105.2.1.setA rfl (by unfold PR; omega) hb112 (ti_any y) hE113_83 oE113) (oE113 68 (by decide)) (oE113 69 (by decide)) (oE113 70 (by decide))
                  have hM115 := hM110.of (oE113 68 (by decide)) (oE113 69 (by decide)) (oE113 70 (by decide))
                  refine v_aload_n C 0 dX9_say_113 rfl rfl ?_
                  refine v_getr C 68 dX9_say_114 fX9_73 (by omega) hM115.2.2.1 rfl rfl ?_
                  refine v_iload C 4 dX9_say_117 rfl ?_
                  refine v_iload_n C 3 dX9_say_119 rfl rfl ?_
                  obtain ⟨f117, hE117, hb117⟩ := hJ114.2.1.getA (b := 84) (by omega) rfl
                  refine v_ast C 84 dX9_say_120 (by omega) hE117 (ti_in (rfl : Int32.toInt y2 = _) (by omega) (by omega)) (fun E118 hE118_84 oE118 => ?_)
                  rw [ti_cl (rfl : Int32.toInt y2 = _)] at hE118_84
                  have hE118_68 := (oE118 68 (by decide)).trans hM115.2.2.1
                  have hJ119 := hJ114.with (hJ114.2.1.setA rfl (by unfold PR; omega) hb117 (ti_any z) hE118_84 oE118) (oE118 68 (by decide)) (oE118 69 (by decide)) (oE118 70 (by decide))
                  have hM120 := hM115.of (oE118 68 (by decide)) (oE118 69 (by decide)) (oE118 70 (by decide))
                  refine v_iload_n C 1 dX9_say_121 rfl rfl ?_
                  refine v_iconst (v := 1) C dX9_say_122 (by decide) ?_
                  refine v_iadd C dX9_say_123 ?_
                  refine v_top (fun x121 ex121 => ?_)
                  have hx121 : x121.toInt = (x.toInt + 1) := by rw [ex121]; exact ti_add (rfl : Int32.toInt x = _) (show (1 : Int32).toInt = 1 by decide) (by omega) (by omega)
                  exact v_ret C dX9_say_124 rfl rfl ⟨⟨(show (0 : Int) ≤ Int32.toInt x121 ∧ Int32.toInt x121 ≤ 800 by have := hx121; omega), (show Int32.toInt x121 ≤ x.toInt + 1 by have := hx121; omega)⟩, hJ119⟩
                · refine v_aload_n C 0 dX9_say_67 rfl rfl ?_
                  obtain ⟨im122, hM122, hb122⟩ := hJ105.1
                  have hq122 := hM122.b
                  refine v_getr C 68 dX9_say_68 fX9_70 (by omega) hM122.2.2.1 rfl rfl ?_
                  refine v_iload C 5 dX9_say_71 rfl ?_
                  refine v_aload_n C 0 dX9_say_73 rfl rfl ?_
                  refine v_getr C 68 dX9_say_74 fX9_70 (by omega) hM122.2.2.1 rfl rfl ?_
                  refine v_iload C 5 dX9_say_77 rfl ?_
                  refine v_iconst (v := 1) C dX9_say_79 (by decide) ?_
                  refine v_isub C dX9_say_80 ?_
                  refine v_top (fun x123 ex123 => ?_)
                  have hx123 : x123.toInt = (y103.toInt - 1) := by rw [ex123]; exact ti_sub (rfl : Int32.toInt y103 = _) (show (1 : Int32).toInt = 1 by decide) (by omega) (by omega)
                  obtain ⟨f125, hE125, hb125⟩ := hJ105.2.1.getA (b := 83) (by omega) rfl
                  refine v_ald (v := f125 ((y103.toInt - 1)).toNat) C 83 dX9_say_81 (by omega) hE125 (ti_in hx123 (by omega) (by omega)) (by rw [ti_cl hx123]) ?_
                  refine v_top (fun x126 _ => ?_)
                  refine v_ast C 83 dX9_say_82 (by omega) hE125 (ti_in (rfl : Int32.toInt y103 = _) (by omega) (by omega)) (fun E127 hE127_83 oE127 => ?_)
                  rw [ti_cl (rfl : Int32.toInt y103 = _)] at hE127_83
                  have hE127_68 := (oE127 68 (by decide)).trans hM122.2.2.1
                  have hJ128 := hJ105.with (hJ105.2.1.setA rfl (by unfold PR; omega) hb125 (ti_any x126) hE127_83 oE127) (oE127 68 (by decide)) (oE127 69 (by decide)) (oE127 70 (by decide))
                  have hM129 := hM122.of (oE127 68 (by decide)) (oE127 69 (by decide)) (oE127 70 (by decide))
                  refine v_aload_n C 0 dX9_say_83 rfl rfl ?_
                  refine v_getr C 68 dX9_say_84 fX9_73 (by omega) hM129.2.2.1 rfl rfl ?_
                  refine v_iload C 5 dX9_say_87 rfl ?_
                  refine v_aload_n C 0 dX9_say_89 rfl rfl ?_
                  refine v_getr C 68 dX9_say_90 fX9_73 (by omega) hM129.2.2.1 rfl rfl ?_
                  refine v_iload C 5 dX9_say_93 rfl ?_
                  refine v_iconst (v := 1) C dX9_say_95 (by decide) ?_
                  refine v_isub C dX9_say_96 ?_
                  refine v_top (fun x130 ex130 => ?_)
                  have hx130 : x130.toInt = (y103.toInt - 1) := by rw [ex130]; exact ti_sub (rfl : Int32.toInt y103 = _) (show (1 : Int32).toInt = 1 by decide) (by omega) (by omega)
                  obtain ⟨f132, hE132, hb132⟩ := hJ128.2.1.getA (b := 84) (by omega) rfl
                  refine v_ald (v := f132 ((y103.toInt - 1)).toNat) C 84 dX9_say_97 (by omega) hE132 (ti_in hx130 (by omega) (by omega)) (by rw [ti_cl hx130]) ?_
                  refine v_top (fun x133 _ => ?_)
                  refine v_ast C 84 dX9_say_98 (by omega) hE132 (ti_in (rfl : Int32.toInt y103 = _) (by omega) (by omega)) (fun E134 hE134_84 oE134 => ?_)
                  rw [ti_cl (rfl : Int32.toInt y103 = _)] at hE134_84
                  have hE134_68 := (oE134 68 (by decide)).trans hM129.2.2.1
                  have hJ135 := hJ128.with (hJ128.2.1.setA rfl (by unfold PR; omega) hb132 (ti_any x133) hE134_84 oE134) (oE134 68 (by decide)) (oE134 69 (by decide)) (oE134 70 (by decide))
                  have hM136 := hM129.of (oE134 68 (by decide)) (oE134 69 (by decide)) (oE134 70 (by decide))
                  obtain ⟨x137, ex137⟩ : ∃ y : Int32, y = y103 + (-1) := ⟨_, rfl⟩
                  have hx137 : x137.toInt = (y103.toInt + (-1)) := by rw [ex137]; exact ti_add (rfl : Int32.toInt y103 = _) (show ((-1) : Int32).toInt = (-1) by decide) (by omega) (by omega)
                  refine v_iinc (v := x137) (lv' := [(0, .ref (ad 68)), (1, .int x), (2, .int y), (3, .int z), (4, .int y2), (5, .int x137)]) C 5 [1, 2, 3, 4, 5, 0] dX9_say_99 rfl (ex137.symm) (by decide) rfl ?_
                  refine v_goto C 60 dX9_say_102 (by decide) ?_
                  exact ih106 _ x137 hJ135 (by have := hx137; omega) (by have := hx137; omega)
            exact LP102 100000 _ x hJ5 (by omega) (by omega)
          · refine v_aload_n C 0 dX9_say_32 rfl rfl ?_
            refine v_getr C 68 dX9_say_33 fX9_70 (by omega) hM95.2.2.1 rfl rfl ?_
            refine v_iload C 4 dX9_say_36 rfl ?_
            refine v_iconst (v := 1) C dX9_say_38 (by decide) ?_
            refine v_isub C dX9_say_39 ?_
            refine v_top (fun x138 ex138 => ?_)
            have hx138 : x138.toInt = (y2.toInt - 1) := by rw [ex138]; exact ti_sub (rfl : Int32.toInt y2 = _) (show (1 : Int32).toInt = 1 by decide) (by omega) (by omega)
            refine v_ald (v := f98 ((y2.toInt - 1)).toNat) C 83 dX9_say_40 (by omega) hE98 (ti_in hx138 (by omega) (by omega)) (by rw [ti_cl hx138]) ?_
            refine v_top (fun x139 _ => ?_)
            refine v_iload_n C 2 dX9_say_41 rfl rfl ?_
            refine b_icmp_ne C 57 dX9_say_42 (by decide) (rfl : Int32.toInt x139 = _) (rfl : Int32.toInt y = _) (fun c140 => ?_) (fun c140 => ?_)
            · refine v_iload_n C 1 dX9_say_57 rfl rfl ?_
              refine v_istore (lv' := [(0, .ref (ad 68)), (1, .int x), (2, .int y), (3, .int z), (4, .int y2), (5, .int x)]) C [1, 2, 3, 4, 5, 0] dX9_say_58 (by decide) rfl ?_
              have LP141 : ∀ (t : Nat) (E143 : Nat → va_E) (y142 : Int32), JM G ad n ic md bd PR E0 E143 → ((0 : Int) ≤ y142.toInt ∧ y142.toInt ≤ 799) → y142.toInt < (t : Int) → V X G A 6 (QI X G A (n) ad (fun r E' => (((0 : Int) ≤ r.toInt ∧ r.toInt ≤ 800) ∧ (r.toInt ≤ x.toInt + 1)) ∧ JM G ad n ic md bd PR E0 E')) n ad 0 0 E143 60 [(0, .ref (ad 68)), (1, .int x), (2, .int y), (3, .int z), (4, .int y2), (5, .int y142)] [] := by
                intro t147
                induction t147 with
                | zero => intro E143 y142 hJ144 hy142 hm146; exfalso; omega
                | succ t147 ih145 =>
                  intro E143 y142 hJ144 hy142 hm146
                  refine v_iload C 5 dX9_say_60 rfl ?_
                  refine v_iload C 4 dX9_say_62 rfl ?_
                  refine b_icmp_le C 105 dX9_say_64 (by decide) (rfl : Int32.toInt y142 = _) (rfl : Int32.toInt y2 = _) (fun c148 => ?_) (fun c148 => ?_)
                  · refine v_aload_n C 0 dX9_say_105 rfl rfl ?_
                    obtain ⟨im149, hM149, hb149⟩ := hJ144.1
                    have hq149 := hM149.b
                    refine v_getr C 68 dX9_say_106 fX9_70 (by omega) hM149.2.2.1 rfl rfl ?_
                    refine v_iload C 4 dX9_say_109 rfl ?_
                    refine v_iload_n C 2 dX9_say_111 rfl rfl ?_
                    obtain ⟨f151, hE151, hb151⟩ := hJ144.2.1.getA (b := 83) (by omega) rfl
                    refine v_ast C 83 dX9_say_112 (by omega) hE151 (ti_in (rfl : Int32.toInt y2 = _) (by omega) (by omega)) (fun E152 hE152_83 oE152 => ?_)
                    rw [ti_cl (rfl : Int32.toInt y2 = _)] at hE152_83
                    have hE152_68 := (oE152 68 (by decide)).trans hM149.2.2.1
                    have hJ153 := hJ144.with (hJ144.2.1.setA rfl (by unfold PR; omega) hb151 (ti_any y) hE152_83 oE152) (oE152 68 (by decide)) (oE152 69 (by decide)) (oE152 70 (by decide))
                    have hM154 := hM149.of (oE152 68 (by decide)) (oE152 69 (by decide)) (oE152 70 (by decide))
                    refine v_aload_n C 0 dX9_say_113 rfl rfl ?_
                    refine v_getr C 68 dX9_say_114 fX9_73 (by omega) hM154.2.2.1 rfl rfl ?_
                    refine v_iload C 4 dX9_say_117 rfl ?_
                    refine v_iload_n C 3 dX9_say_119 rfl rfl ?_
                    obtain ⟨f156, hE156, hb156⟩ := hJ153.2.1.getA (b := 84) (by omega) rfl
                    refine v_ast C 84 dX9_say_120 (by omega) hE156 (ti_in (rfl : Int32.toInt y2 = _) (by omega) (by omega)) (fun E157 hE157_84 oE157 => ?_)
                    rw [ti_cl (rfl : Int32.toInt y2 = _)] at hE157_84
                    have hE157_68 := (oE157 68 (by decide)).trans hM154.2.2.1
                    have hJ158 := hJ153.with (hJ153.2.1.setA rfl (by unfold PR; omega) hb156 (ti_any z) hE157_84 oE157) (oE157 68 (by decide)) (oE157 69 (by decide)) (oE157 70 (by decide))
                    have hM159 := hM154.of (oE157 68 (by decide)) (oE157 69 (by decide)) (oE157 70 (by decide))
                    refine v_iload_n C 1 dX9_say_121 rfl rfl ?_
                    refine v_iconst (v := 1) C dX9_say_122 (by decide) ?_
                    refine v_iadd C dX9_say_123 ?_
                    refine v_top (fun x160 ex160 => ?_)
                    have hx160 : x160.toInt = (x.toInt + 1) := by rw [ex160]; exact ti_add (rfl : Int32.toInt x = _) (show (1 : Int32).toInt = 1 by decide) (by omega) (by omega)
                    exact v_ret C dX9_say_124 rfl rfl ⟨⟨(show (0 : Int) ≤ Int32.toInt x160 ∧ Int32.toInt x160 ≤ 800 by have := hx160; omega), (show Int32.toInt x160 ≤ x.toInt + 1 by have := hx160; omega)⟩, hJ158⟩
                  · refine v_aload_n C 0 dX9_say_67 rfl rfl ?_
                    obtain ⟨im161, hM161, hb161⟩ := hJ144.1
                    have hq161 := hM161.b
                    refine v_getr C 68 dX9_say_68 fX9_70 (by omega) hM161.2.2.1 rfl rfl ?_
                    refine v_iload C 5 dX9_say_71 rfl ?_
                    refine v_aload_n C 0 dX9_say_73 rfl rfl ?_
                    refine v_getr C 68 dX9_say_74 fX9_70 (by omega) hM161.2.2.1 rfl rfl ?_
                    refine v_iload C 5 dX9_say_77 rfl ?_
                    refine v_iconst (v := 1) C dX9_say_79 (by decide) ?_
                    refine v_isub C dX9_say_80 ?_
                    refine v_top (fun x162 ex162 => ?_)
                    have hx162 : x162.toInt = (y142.toInt - 1) := by rw [ex162]; exact ti_sub (rfl : Int32.toInt y142 = _) (show (1 : Int32).toInt = 1 by decide) (by omega) (by omega)
                    obtain ⟨f164, hE164, hb164⟩ := hJ144.2.1.getA (b := 83) (by omega) rfl
                    refine v_ald (v := f164 ((y142.toInt - 1)).toNat) C 83 dX9_say_81 (by omega) hE164 (ti_in hx162 (by omega) (by omega)) (by rw [ti_cl hx162]) ?_
                    refine v_top (fun x165 _ => ?_)
                    refine v_ast C 83 dX9_say_82 (by omega) hE164 (ti_in (rfl : Int32.toInt y142 = _) (by omega) (by omega)) (fun E166 hE166_83 oE166 => ?_)
                    rw [ti_cl (rfl : Int32.toInt y142 = _)] at hE166_83
                    have hE166_68 := (oE166 68 (by decide)).trans hM161.2.2.1
                    have hJ167 := hJ144.with (hJ144.2.1.setA rfl (by unfold PR; omega) hb164 (ti_any x165) hE166_83 oE166) (oE166 68 (by decide)) (oE166 69 (by decide)) (oE166 70 (by decide))
                    have hM168 := hM161.of (oE166 68 (by decide)) (oE166 69 (by decide)) (oE166 70 (by decide))
                    refine v_aload_n C 0 dX9_say_83 rfl rfl ?_
                    refine v_getr C 68 dX9_say_84 fX9_73 (by omega) hM168.2.2.1 rfl rfl ?_
                    refine v_iload C 5 dX9_say_87 rfl ?_
                    refine v_aload_n C 0 dX9_say_89 rfl rfl ?_
                    refine v_getr C 68 dX9_say_90 fX9_73 (by omega) hM168.2.2.1 rfl rfl ?_
                    refine v_iload C 5 dX9_say_93 rfl ?_
                    refine v_iconst (v := 1) C dX9_say_95 (by decide) ?_
                    refine v_isub C dX9_say_96 ?_
                    refine v_top (fun x169 ex169 => ?_)
                    have hx169 : x169.toInt = (y142.toInt - 1) := by rw [ex169]; exact ti_sub (rfl : Int32.toInt y142 = _) (show (1 : Int32).toInt = 1 by decide) (by omega) (by omega)
                    obtain ⟨f171, hE171, hb171⟩ := hJ167.2.1.getA (b := 84) (by omega) rfl
                    refine v_ald (v := f171 ((y142.toInt - 1)).toNat) C 84 dX9_say_97 (by omega) hE171 (ti_in hx169 (by omega) (by omega)) (by rw [ti_cl hx169]) ?_
                    refine v_top (fun x172 _ => ?_)
                    refine v_ast C 84 dX9_say_98 (by omega) hE171 (ti_in (rfl : Int32.toInt y142 = _) (by omega) (by omega)) (fun E173 hE173_84 oE173 => ?_)
                    rw [ti_cl (rfl : Int32.toInt y142 = _)] at hE173_84
                    have hE173_68 := (oE173 68 (by decide)).trans hM168.2.2.1
                    have hJ174 := hJ167.with (hJ167.2.1.setA rfl (by unfold PR; omega) hb171 (ti_any x172) hE173_84 oE173) (oE173 68 (by decide)) (oE173 69 (by decide)) (oE173 70 (by decide))
                    have hM175 := hM168.of (oE173 68 (by decide)) (oE173 69 (by decide)) (oE173 70 (by decide))
                    obtain ⟨x176, ex176⟩ : ∃ y : Int32, y = y142 + (-1) := ⟨_, rfl⟩
                    have hx176 : x176.toInt = (y142.toInt + (-1)) := by rw [ex176]; exact ti_add (rfl : Int32.toInt y142 = _) (show ((-1) : Int32).toInt = (-1) by decide) (by omega) (by omega)
                    refine v_iinc (v := x176) (lv' := [(0, .ref (ad 68)), (1, .int x), (2, .int y), (3, .int z), (4, .int y2), (5, .int x176)]) C 5 [1, 2, 3, 4, 5, 0] dX9_say_99 rfl (ex176.symm) (by decide) rfl ?_
                    refine v_goto C 60 dX9_say_102 (by decide) ?_
                    exact ih145 _ x176 hJ174 (by have := hx176; omega) (by have := hx176; omega)
              exact LP141 100000 _ x hJ5 (by omega) (by omega)
            · refine v_aload_n C 0 dX9_say_45 rfl rfl ?_
              refine v_getr C 68 dX9_say_46 fX9_73 (by omega) hM95.2.2.1 rfl rfl ?_
              refine v_iload C 4 dX9_say_49 rfl ?_
              refine v_iconst (v := 1) C dX9_say_51 (by decide) ?_
              refine v_isub C dX9_say_52 ?_
              refine v_top (fun x177 ex177 => ?_)
              have hx177 : x177.toInt = (y2.toInt - 1) := by rw [ex177]; exact ti_sub (rfl : Int32.toInt y2 = _) (show (1 : Int32).toInt = 1 by decide) (by omega) (by omega)
              refine v_iload_n C 3 dX9_say_53 rfl rfl ?_
              obtain ⟨f179, hE179, hb179⟩ := hJ5.2.1.getA (b := 84) (by omega) rfl
              refine v_ast C 84 dX9_say_54 (by omega) hE179 (ti_in hx177 (by omega) (by omega)) (fun E180 hE180_84 oE180 => ?_)
              rw [ti_cl hx177] at hE180_84
              have hE180_68 := (oE180 68 (by decide)).trans hM95.2.2.1
              have hE180_83 := (oE180 83 (by decide)).trans hE98
              have hJ181 := hJ5.with (hJ5.2.1.setA rfl (by unfold PR; omega) hb179 (ti_any z) hE180_84 oE180) (oE180 68 (by decide)) (oE180 69 (by decide)) (oE180 70 (by decide))
              have hM182 := hM95.of (oE180 68 (by decide)) (oE180 69 (by decide)) (oE180 70 (by decide))
              refine v_iload_n C 1 dX9_say_55 rfl rfl ?_
              exact v_ret C dX9_say_56 rfl rfl ⟨⟨(show (0 : Int) ≤ Int32.toInt x ∧ Int32.toInt x ≤ 800 by omega), (show Int32.toInt x ≤ x.toInt + 1 by omega)⟩, hJ181⟩
        · obtain ⟨x183, ex183⟩ : ∃ y : Int32, y = y2 + (-1) := ⟨_, rfl⟩
          have hx183 : x183.toInt = (y2.toInt + (-1)) := by rw [ex183]; exact ti_add (rfl : Int32.toInt y2 = _) (show ((-1) : Int32).toInt = (-1) by decide) (by omega) (by omega)
          refine v_iinc (v := x183) (lv' := [(0, .ref (ad 68)), (1, .int x), (2, .int y), (3, .int z), (4, .int x183)]) C 4 [1, 2, 3, 4, 0] dX9_say_21 rfl (ex183.symm) (by decide) rfl ?_
          refine v_goto C 3 dX9_say_24 (by decide) ?_
          exact ih6 _ x183 hJ5 (by have := hx183; omega) (by have := hx183; omega) (by have := hx183; omega)
  exact LP1 100000 _ x hJ (by omega) (by omega) (by omega)

set_option maxRecDepth 20000 in
theorem t_X9_find (l : Launch) (G : Gl) (ad : Nat → Nat) {n : Nat} {ic md : Nat → Int32} {bd : Nat → Int × Int} {E0 E : Nat → va_E} (hJ : JM G ad n ic md bd PR E0 E) (x : Int32) (hx : (0 : Int) ≤ x.toInt ∧ x.toInt ≤ 4) : CtV l G yX9_find cX9_find 7 3 70 (n) ad E [.ref (ad 68), .int x] (fun E' => JM G ad n ic md bd PR E0 E') := by
  refine CtV.of (by decide) (Nat.le_of_ble_eq_true rfl) (fun X A C => ?_)
  refine v_sub (lv' := [(0, .ref (ad 68)), (1, .int x)]) [0, 1] rfl ?_
  have hn := hJ.hn
  have hz16 := hJ.2.2.2.2
  refine v_aload_n C 0 dX9_find_0 rfl rfl ?_
  obtain ⟨im1, hM1, hb1⟩ := hJ.1
  have hq1 := hM1.b
  refine v_getr C 68 dX9_find_1 fX9_57 (by omega) hM1.2.2.1 rfl rfl ?_
  refine v_iload_n C 1 dX9_find_4 rfl rfl ?_
  obtain ⟨f3, hE3, hb3⟩ := hJ.2.1.getB (b := 79) (by omega) rfl
  refine v_zald (v := f3 (x.toInt).toNat) C 79 dX9_find_5 (by omega) hE3 (ti_in (rfl : Int32.toInt x = _) (by omega) (by omega)) (by rw [ti_cl (rfl : Int32.toInt x = _)]) ?_
  refine v_top (fun x4 ex4 => ?_)
  have hx4 : x4 = 0 ∨ x4 = 1 := by rw [ex4]; exact hb3 _
  have hx4b : (0 : Int) ≤ x4.toInt ∧ x4.toInt ≤ 1 := by rcases hx4 with q | q <;> rw [q] <;> decide
  refine b_if_eq C 10 dX9_find_6 (by decide) (rfl : Int32.toInt x4 = _) (fun c5 => ?_) (fun c5 => ?_)
  · refine v_iconst (v := 0) C dX9_find_10 (by decide) ?_
    refine v_istore_n (lv' := [(0, .ref (ad 68)), (1, .int x), (2, .int 0)]) C [1, 2, 0] dX9_find_11 rfl (by decide) rfl ?_
    refine v_bipush (v := 8) C dX9_find_12 (by decide) ?_
    refine v_iload_n C 1 dX9_find_14 rfl rfl ?_
    refine v_imul C dX9_find_15 ?_
    refine v_top (fun x6 ex6 => ?_)
    have hx6 : x6.toInt = (8 * x.toInt) := by rw [ex6]; exact ti_mul (show (8 : Int32).toInt = 8 by decide) (rfl : Int32.toInt x = _) (by omega) (by omega)
    refine v_istore_n (lv' := [(0, .ref (ad 68)), (1, .int x), (2, .int 0), (3, .int x6)]) C [1, 2, 3, 0] dX9_find_16 rfl (by decide) rfl ?_
    have LP7 : ∀ (t : Nat) (E13 : Nat → va_E) (y8 : Int32) (y9 : Int32), JM G ad n ic md bd PR E0 E13 → ((0 : Int) ≤ y8.toInt ∧ y8.toInt ≤ 800) → ((0 : Int) ≤ y9.toInt ∧ y9.toInt ≤ 40) → (8 * x.toInt ≤ y9.toInt) → (y9.toInt ≤ 8 * x.toInt + 8) → (y8.toInt ≤ 100 * (y9.toInt - 8 * x.toInt)) → 41 - y9.toInt < (t : Int) → V X G A 7 (QV X G A (n) ad (fun E' => JM G ad n ic md bd PR E0 E')) n ad 0 0 E13 17 [(0, .ref (ad 68)), (1, .int x), (2, .int y8), (3, .int y9)] [] := by
      intro t17
      induction t17 with
      | zero => intro E13 y8 y9 hJ14 hy8 hy9 hq10 hq11 hq12 hm16; exfalso; omega
      | succ t17 ih15 =>
        intro E13 y8 y9 hJ14 hy8 hy9 hq10 hq11 hq12 hm16
        refine v_iload_n C 3 dX9_find_17 rfl rfl ?_
        refine v_bipush (v := 8) C dX9_find_18 (by decide) ?_
        refine v_iload_n C 1 dX9_find_20 rfl rfl ?_
        refine v_imul C dX9_find_21 ?_
        refine v_top (fun x18 ex18 => ?_)
        have hx18 : x18.toInt = (8 * x.toInt) := by rw [ex18]; exact ti_mul (show (8 : Int32).toInt = 8 by decide) (rfl : Int32.toInt x = _) (by omega) (by omega)
        refine v_aload_n C 0 dX9_find_22 rfl rfl ?_
        obtain ⟨im19, hM19, hb19⟩ := hJ14.1
        have hq19 := hM19.b
        refine v_getr C 68 dX9_find_23 fX9_50 (by omega) hM19.2.2.1 rfl rfl ?_
        refine v_iload_n C 1 dX9_find_26 rfl rfl ?_
        obtain ⟨f21, hE21, hb21⟩ := hJ14.2.1.getA (b := 78) (by omega) rfl
        refine v_ald (v := f21 (x.toInt).toNat) C 78 dX9_find_27 (by omega) hE21 (ti_in (rfl : Int32.toInt x = _) (by omega) (by omega)) (by rw [ti_cl (rfl : Int32.toInt x = _)]) ?_
        refine v_top (fun x22 ex22 => ?_)
        have hx22 : (0 : Int) ≤ x22.toInt ∧ x22.toInt ≤ 8 := by rw [ex22]; exact hb21 _
        refine v_iadd C dX9_find_28 ?_
        refine v_top (fun x23 ex23 => ?_)
        have hx23 : x23.toInt = ((8 * x.toInt) + x22.toInt) := by rw [ex23]; exact ti_add hx18 (rfl : Int32.toInt x22 = _) (by omega) (by omega)
        refine b_icmp_ge C 149 dX9_find_29 (by decide) (rfl : Int32.toInt y9 = _) hx23 (fun c24 => ?_) (fun c24 => ?_)
        · refine v_sipush (v := 801) C dX9_find_149 (by decide) ?_
          refine v_iload_n C 1 dX9_find_152 rfl rfl ?_
          refine v_imul C dX9_find_153 ?_
          refine v_top (fun x25 ex25 => ?_)
          have hx25 : x25.toInt = (801 * x.toInt) := by rw [ex25]; exact ti_mul (show (801 : Int32).toInt = 801 by decide) (rfl : Int32.toInt x = _) (by omega) (by omega)
          refine v_istore_n (lv' := [(0, .ref (ad 68)), (1, .int x), (2, .int y8), (3, .int x25)]) C [1, 2, 3, 0] dX9_find_154 rfl (by decide) rfl ?_
          refine v_aload_n C 0 dX9_find_155 rfl rfl ?_
          refine v_getr C 68 dX9_find_156 fX9_61 (by omega) hM19.2.2.1 rfl rfl ?_
          refine v_iload_n C 3 dX9_find_159 rfl rfl ?_
          refine v_iconst (v := 0) C dX9_find_160 (by decide) ?_
          obtain ⟨f27, hE27, hb27⟩ := hJ14.2.1.getA (b := 80) (by omega) rfl
          refine v_ast C 80 dX9_find_161 (by omega) hE27 (ti_in hx25 (by omega) (by omega)) (fun E28 hE28_80 oE28 => ?_)
          rw [ti_cl hx25] at hE28_80
          have hE28_68 := (oE28 68 (by decide)).trans hM19.2.2.1
          have hE28_78 := (oE28 78 (by decide)).trans hE21
          have hJ29 := hJ14.with (hJ14.2.1.setA rfl (by unfold PR; omega) hb27 (ti_any 0) hE28_80 oE28) (oE28 68 (by decide)) (oE28 69 (by decide)) (oE28 70 (by decide))
          have hM30 := hM19.of (oE28 68 (by decide)) (oE28 69 (by decide)) (oE28 70 (by decide))
          refine v_aload_n C 0 dX9_find_162 rfl rfl ?_
          refine v_getr C 68 dX9_find_163 fX9_64 (by omega) hM30.2.2.1 rfl rfl ?_
          refine v_iload_n C 3 dX9_find_166 rfl rfl ?_
          refine v_aload_n C 0 dX9_find_167 rfl rfl ?_
          refine v_getr C 68 dX9_find_168 fX9_29 (by omega) hM30.2.2.1 rfl rfl ?_
          refine v_iload_n C 1 dX9_find_171 rfl rfl ?_
          obtain ⟨f32, hE32, hb32⟩ := hJ29.2.1.getA (b := 71) (by omega) rfl
          refine v_ald (v := f32 (x.toInt).toNat) C 71 dX9_find_172 (by omega) hE32 (ti_in (rfl : Int32.toInt x = _) (by omega) (by omega)) (by rw [ti_cl (rfl : Int32.toInt x = _)]) ?_
          refine v_top (fun x33 _ => ?_)
          obtain ⟨f35, hE35, hb35⟩ := hJ29.2.1.getA (b := 81) (by omega) rfl
          refine v_ast C 81 dX9_find_173 (by omega) hE35 (ti_in hx25 (by omega) (by omega)) (fun E36 hE36_81 oE36 => ?_)
          rw [ti_cl hx25] at hE36_81
          have hE36_68 := (oE36 68 (by decide)).trans hM30.2.2.1
          have hE36_78 := (oE36 78 (by decide)).trans hE28_78
          have hE36_71 := (oE36 71 (by decide)).trans hE32
          have hJ37 := hJ29.with (hJ29.2.1.setA rfl (by unfold PR; omega) hb35 (ti_any x33) hE36_81 oE36) (oE36 68 (by decide)) (oE36 69 (by decide)) (oE36 70 (by decide))
          have hM38 := hM30.of (oE36 68 (by decide)) (oE36 69 (by decide)) (oE36 70 (by decide))
          refine v_iconst (v := 0) C dX9_find_174 (by decide) ?_
          refine v_istore (lv' := [(0, .ref (ad 68)), (1, .int x), (2, .int y8), (3, .int x25), (4, .int 0)]) C [1, 2, 3, 4, 0] dX9_find_175 (by decide) rfl ?_
          refine v_iconst (v := 0) C dX9_find_177 (by decide) ?_
          refine v_istore (lv' := [(0, .ref (ad 68)), (1, .int x), (2, .int y8), (3, .int x25), (4, .int 0), (5, .int 0)]) C [1, 2, 3, 4, 5, 0] dX9_find_178 (by decide) rfl ?_
          have LP39 : ∀ (t : Nat) (E44 : Nat → va_E) (y40 : Int32) (y41 : Int32), JM G ad n ic md bd PR E0 E44 → ((0 : Int) ≤ y40.toInt ∧ y40.toInt ≤ 800) → ((0 : Int) ≤ y41.toInt ∧ y41.toInt ≤ 800) → (y40.toInt ≤ y41.toInt) → (y41.toInt ≤ y8.toInt) → 801 - y41.toInt < (t : Int) → V X G A 7 (QV X G A (n) ad (fun E' => JM G ad n ic md bd PR E0 E')) n ad 0 0 E44 180 [(0, .ref (ad 68)), (1, .int x), (2, .int y8), (3, .int x25), (4, .int y40), (5, .int y41)] [] := by
            intro t48
            induction t48 with
            | zero => intro E44 y40 y41 hJ45 hy40 hy41 hq42 hq43 hm47; exfalso; omega
            | succ t48 ih46 =>
              intro E44 y40 y41 hJ45 hy40 hy41 hq42 hq43 hm47
              refine v_iload C 5 dX9_find_180 rfl ?_
              refine v_iload_n C 2 dX9_find_182 rfl rfl ?_
              refine b_icmp_ge C 265 dX9_find_183 (by decide) (rfl : Int32.toInt y41 = _) (rfl : Int32.toInt y8 = _) (fun c49 => ?_) (fun c49 => ?_)
              · refine v_aload_n C 0 dX9_find_265 rfl rfl ?_
                obtain ⟨im50, hM50, hb50⟩ := hJ45.1
                have hq50 := hM50.b
                refine v_getr C 68 dX9_find_266 fX9_67 (by omega) hM50.2.2.1 rfl rfl ?_
                refine v_iload_n C 1 dX9_find_269 rfl rfl ?_
                refine v_iload C 4 dX9_find_270 rfl ?_
                obtain ⟨f52, hE52, hb52⟩ := hJ45.2.1.getA (b := 82) (by omega) rfl
                refine v_ast C 82 dX9_find_272 (by omega) hE52 (ti_in (rfl : Int32.toInt x = _) (by omega) (by omega)) (fun E53 hE53_82 oE53 => ?_)
                rw [ti_cl (rfl : Int32.toInt x = _)] at hE53_82
                have hE53_68 := (oE53 68 (by decide)).trans hM50.2.2.1
                have hJ54 := hJ45.with (hJ45.2.1.setA rfl (by unfold PR; omega) hb52 (show (0 : Int) ≤ Int32.toInt y40 ∧ Int32.toInt y40 ≤ 800 by omega) hE53_82 oE53) (oE53 68 (by decide)) (oE53 69 (by decide)) (oE53 70 (by decide))
                have hM55 := hM50.of (oE53 68 (by decide)) (oE53 69 (by decide)) (oE53 70 (by decide))
                refine v_aload_n C 0 dX9_find_273 rfl rfl ?_
                refine v_getr C 68 dX9_find_274 fX9_57 (by omega) hM55.2.2.1 rfl rfl ?_
                refine v_iload_n C 1 dX9_find_277 rfl rfl ?_
                refine v_iconst (v := 1) C dX9_find_278 (by decide) ?_
                obtain ⟨f57, hE57, hb57⟩ := hJ54.2.1.getB (b := 79) (by omega) rfl
                refine v_zast C 79 dX9_find_279 (by omega) hE57 (ti_in (rfl : Int32.toInt x = _) (by omega) (by omega)) rfl (fun E58 hE58_79 oE58 => ?_)
                rw [ti_cl (rfl : Int32.toInt x = _)] at hE58_79
                have hE58_68 := (oE58 68 (by decide)).trans hM55.2.2.1
                have hJ59 := hJ54.with (hJ54.2.1.setB rfl (by unfold PR; omega) hb57 (by decide) hE58_79 oE58) (oE58 68 (by decide)) (oE58 69 (by decide)) (oE58 70 (by decide))
                have hM60 := hM55.of (oE58 68 (by decide)) (oE58 69 (by decide)) (oE58 70 (by decide))
                exact v_vret C dX9_find_280 rfl hJ59
              · refine v_aload_n C 0 dX9_find_186 rfl rfl ?_
                obtain ⟨im61, hM61, hb61⟩ := hJ45.1
                have hq61 := hM61.b
                refine v_getr C 68 dX9_find_187 fX9_70 (by omega) hM61.2.2.1 rfl rfl ?_
                refine v_iload C 5 dX9_find_190 rfl ?_
                obtain ⟨f63, hE63, hb63⟩ := hJ45.2.1.getA (b := 83) (by omega) rfl
                refine v_ald (v := f63 (y41.toInt).toNat) C 83 dX9_find_192 (by omega) hE63 (ti_in (rfl : Int32.toInt y41 = _) (by omega) (by omega)) (by rw [ti_cl (rfl : Int32.toInt y41 = _)]) ?_
                refine v_top (fun x64 _ => ?_)
                refine v_aload_n C 0 dX9_find_193 rfl rfl ?_
                refine v_getr C 68 dX9_find_194 fX9_64 (by omega) hM61.2.2.1 rfl rfl ?_
                refine v_iload_n C 3 dX9_find_197 rfl rfl ?_
                refine v_iload C 4 dX9_find_198 rfl ?_
                refine v_iadd C dX9_find_200 ?_
                refine v_top (fun x65 ex65 => ?_)
                have hx65 : x65.toInt = ((801 * x.toInt) + y40.toInt) := by rw [ex65]; exact ti_add hx25 (rfl : Int32.toInt y40 = _) (by omega) (by omega)
                obtain ⟨f67, hE67, hb67⟩ := hJ45.2.1.getA (b := 81) (by omega) rfl
                refine v_ald (v := f67 (((801 * x.toInt) + y40.toInt)).toNat) C 81 dX9_find_201 (by omega) hE67 (ti_in hx65 (by omega) (by omega)) (by rw [ti_cl hx65]) ?_
                refine v_top (fun x68 _ => ?_)
                refine v_isub C dX9_find_202 ?_
                refine v_top (fun x69 _ => ?_)
                refine v_istore (lv' := [(0, .ref (ad 68)), (1, .int x), (2, .int y8), (3, .int x25), (4, .int y40), (5, .int y41), (6, .int x69)]) C [1, 2, 3, 4, 5, 6, 0] dX9_find_203 (by decide) rfl ?_
                refine v_iload C 6 dX9_find_205 rfl ?_
                refine b_if_lt C 259 dX9_find_207 (by decide) (rfl : Int32.toInt x69 = _) (fun c70 => ?_) (fun c70 => ?_)
                · obtain ⟨x71, ex71⟩ : ∃ y : Int32, y = y41 + 1 := ⟨_, rfl⟩
                  have hx71 : x71.toInt = (y41.toInt + 1) := by rw [ex71]; exact ti_add (rfl : Int32.toInt y41 = _) (show (1 : Int32).toInt = 1 by decide) (by omega) (by omega)
                  refine v_iinc (v := x71) (lv' := [(0, .ref (ad 68)), (1, .int x), (2, .int y8), (3, .int x25), (4, .int y40), (5, .int x71), (6, .int x69)]) C 5 [1, 2, 3, 4, 5, 0, 6] dX9_find_259 rfl (ex71.symm) (by decide) rfl ?_
                  refine v_goto C 180 dX9_find_262 (by decide) ?_
                  refine v_sub (lv' := [(0, .ref (ad 68)), (1, .int x), (2, .int y8), (3, .int x25), (4, .int y40), (5, .int x71)]) [0, 1, 2, 3, 4, 5] rfl ?_
                  exact ih46 _ y40 x71 hJ45 (by have := hx71; omega) (by have := hx71; omega) (by have := hx71; omega) (by have := hx71; omega) (by have := hx71; omega)
                · refine v_iload C 4 dX9_find_210 rfl ?_
                  refine b_if_eq C 229 dX9_find_212 (by decide) (rfl : Int32.toInt y40 = _) (fun c72 => ?_) (fun c72 => ?_)
                  · obtain ⟨x73, ex73⟩ : ∃ y : Int32, y = y40 + 1 := ⟨_, rfl⟩
                    have hx73 : x73.toInt = (y40.toInt + 1) := by rw [ex73]; exact ti_add (rfl : Int32.toInt y40 = _) (show (1 : Int32).toInt = 1 by decide) (by omega) (by omega)
                    refine v_iinc (v := x73) (lv' := [(0, .ref (ad 68)), (1, .int x), (2, .int y8), (3, .int x25), (4, .int x73), (5, .int y41), (6, .int x69)]) C 4 [1, 2, 3, 4, 0, 5, 6] dX9_find_229 rfl (ex73.symm) (by decide) rfl ?_
                    refine v_aload_n C 0 dX9_find_232 rfl rfl ?_
                    refine v_getr C 68 dX9_find_233 fX9_61 (by omega) hM61.2.2.1 rfl rfl ?_
                    refine v_iload_n C 3 dX9_find_236 rfl rfl ?_
                    refine v_iload C 4 dX9_find_237 rfl ?_
                    refine v_iadd C dX9_find_239 ?_
                    refine v_top (fun x74 ex74 => ?_)
                    have hx74 : x74.toInt = ((801 * x.toInt) + (y40.toInt + 1)) := by rw [ex74]; exact ti_add hx25 hx73 (by omega) (by omega)
                    refine v_iload C 6 dX9_find_240 rfl ?_
                    obtain ⟨f76, hE76, hb76⟩ := hJ45.2.1.getA (b := 80) (by omega) rfl
                    refine v_ast C 80 dX9_find_242 (by omega) hE76 (ti_in hx74 (by omega) (by omega)) (fun E77 hE77_80 oE77 => ?_)
                    rw [ti_cl hx74] at hE77_80
                    have hE77_68 := (oE77 68 (by decide)).trans hM61.2.2.1
                    have hE77_83 := (oE77 83 (by decide)).trans hE63
                    have hE77_81 := (oE77 81 (by decide)).trans hE67
                    have hJ78 := hJ45.with (hJ45.2.1.setA rfl (by unfold PR; omega) hb76 (ti_any x69) hE77_80 oE77) (oE77 68 (by decide)) (oE77 69 (by decide)) (oE77 70 (by decide))
                    have hM79 := hM61.of (oE77 68 (by decide)) (oE77 69 (by decide)) (oE77 70 (by decide))
                    refine v_aload_n C 0 dX9_find_243 rfl rfl ?_
                    refine v_getr C 68 dX9_find_244 fX9_64 (by omega) hM79.2.2.1 rfl rfl ?_
                    refine v_iload_n C 3 dX9_find_247 rfl rfl ?_
                    refine v_iload C 4 dX9_find_248 rfl ?_
                    refine v_iadd C dX9_find_250 ?_
                    refine v_top (fun x80 ex80 => ?_)
                    have hx80 : x80.toInt = ((801 * x.toInt) + (y40.toInt + 1)) := by rw [ex80]; exact ti_add hx25 hx73 (by omega) (by omega)
                    refine v_aload_n C 0 dX9_find_251 rfl rfl ?_
                    refine v_getr C 68 dX9_find_252 fX9_73 (by omega) hM79.2.2.1 rfl rfl ?_
                    refine v_iload C 5 dX9_find_255 rfl ?_
                    obtain ⟨f82, hE82, hb82⟩ := hJ78.2.1.getA (b := 84) (by omega) rfl
                    refine v_ald (v := f82 (y41.toInt).toNat) C 84 dX9_find_257 (by omega) hE82 (ti_in (rfl : Int32.toInt y41 = _) (by omega) (by omega)) (by rw [ti_cl (rfl : Int32.toInt y41 = _)]) ?_
                    refine v_top (fun x83 _ => ?_)
                    refine v_ast C 81 dX9_find_258 (by omega) hE77_81 (ti_in hx80 (by omega) (by omega)) (fun E84 hE84_81 oE84 => ?_)
                    rw [ti_cl hx80] at hE84_81
                    have hE84_68 := (oE84 68 (by decide)).trans hM79.2.2.1
                    have hE84_83 := (oE84 83 (by decide)).trans hE77_83
                    have hE84_84 := (oE84 84 (by decide)).trans hE82
                    have hJ85 := hJ78.with (hJ78.2.1.setA rfl (by unfold PR; omega) hb67 (ti_any x83) hE84_81 oE84) (oE84 68 (by decide)) (oE84 69 (by decide)) (oE84 70 (by decide))
                    have hM86 := hM79.of (oE84 68 (by decide)) (oE84 69 (by decide)) (oE84 70 (by decide))
                    obtain ⟨x87, ex87⟩ : ∃ y : Int32, y = y41 + 1 := ⟨_, rfl⟩
                    have hx87 : x87.toInt = (y41.toInt + 1) := by rw [ex87]; exact ti_add (rfl : Int32.toInt y41 = _) (show (1 : Int32).toInt = 1 by decide) (by omega) (by omega)
                    refine v_iinc (v := x87) (lv' := [(0, .ref (ad 68)), (1, .int x), (2, .int y8), (3, .int x25), (4, .int x73), (5, .int x87), (6, .int x69)]) C 5 [1, 2, 3, 4, 5, 0, 6] dX9_find_259 rfl (ex87.symm) (by decide) rfl ?_
                    refine v_goto C 180 dX9_find_262 (by decide) ?_
                    refine v_sub (lv' := [(0, .ref (ad 68)), (1, .int x), (2, .int y8), (3, .int x25), (4, .int x73), (5, .int x87)]) [0, 1, 2, 3, 4, 5] rfl ?_
                    exact ih46 _ x73 x87 hJ85 (by have := hx73; have := hx87; omega) (by have := hx73; have := hx87; omega) (by have := hx73; have := hx87; omega) (by have := hx73; have := hx87; omega) (by have := hx73; have := hx87; omega)
                  · refine v_iload C 6 dX9_find_215 rfl ?_
                    refine v_aload_n C 0 dX9_find_217 rfl rfl ?_
                    refine v_getr C 68 dX9_find_218 fX9_61 (by omega) hM61.2.2.1 rfl rfl ?_
                    refine v_iload_n C 3 dX9_find_221 rfl rfl ?_
                    refine v_iload C 4 dX9_find_222 rfl ?_
                    refine v_iadd C dX9_find_224 ?_
                    refine v_top (fun x88 ex88 => ?_)
                    have hx88 : x88.toInt = ((801 * x.toInt) + y40.toInt) := by rw [ex88]; exact ti_add hx25 (rfl : Int32.toInt y40 = _) (by omega) (by omega)
                    obtain ⟨f90, hE90, hb90⟩ := hJ45.2.1.getA (b := 80) (by omega) rfl
                    refine v_ald (v := f90 (((801 * x.toInt) + y40.toInt)).toNat) C 80 dX9_find_225 (by omega) hE90 (ti_in hx88 (by omega) (by omega)) (by rw [ti_cl hx88]) ?_
                    refine v_top (fun x91 _ => ?_)
                    refine b_icmp_le C 259 dX9_find_226 (by decide) (rfl : Int32.toInt x69 = _) (rfl : Int32.toInt x91 = _) (fun c92 => ?_) (fun c92 => ?_)
                    · obtain ⟨x93, ex93⟩ : ∃ y : Int32, y = y41 + 1 := ⟨_, rfl⟩
                      have hx93 : x93.toInt = (y41.toInt + 1) := by rw [ex93]; exact ti_add (rfl : Int32.toInt y41 = _) (show (1 : Int32).toInt = 1 by decide) (by omega) (by omega)
                      refine v_iinc (v := x93) (lv' := [(0, .ref (ad 68)), (1, .int x), (2, .int y8), (3, .int x25), (4, .int y40), (5, .int x93), (6, .int x69)]) C 5 [1, 2, 3, 4, 5, 0, 6] dX9_find_259 rfl (ex93.symm) (by decide) rfl ?_
                      refine v_goto C 180 dX9_find_262 (by decide) ?_
                      refine v_sub (lv' := [(0, .ref (ad 68)), (1, .int x), (2, .int y8), (3, .int x25), (4, .int y40), (5, .int x93)]) [0, 1, 2, 3, 4, 5] rfl ?_
                      exact ih46 _ y40 x93 hJ45 (by have := hx93; omega) (by have := hx93; omega) (by have := hx93; omega) (by have := hx93; omega) (by have := hx93; omega)
                    · obtain ⟨x94, ex94⟩ : ∃ y : Int32, y = y40 + 1 := ⟨_, rfl⟩
                      have hx94 : x94.toInt = (y40.toInt + 1) := by rw [ex94]; exact ti_add (rfl : Int32.toInt y40 = _) (show (1 : Int32).toInt = 1 by decide) (by omega) (by omega)
                      refine v_iinc (v := x94) (lv' := [(0, .ref (ad 68)), (1, .int x), (2, .int y8), (3, .int x25), (4, .int x94), (5, .int y41), (6, .int x69)]) C 4 [1, 2, 3, 4, 0, 5, 6] dX9_find_229 rfl (ex94.symm) (by decide) rfl ?_
                      refine v_aload_n C 0 dX9_find_232 rfl rfl ?_
                      refine v_getr C 68 dX9_find_233 fX9_61 (by omega) hM61.2.2.1 rfl rfl ?_
                      refine v_iload_n C 3 dX9_find_236 rfl rfl ?_
                      refine v_iload C 4 dX9_find_237 rfl ?_
                      refine v_iadd C dX9_find_239 ?_
                      refine v_top (fun x95 ex95 => ?_)
                      have hx95 : x95.toInt = ((801 * x.toInt) + (y40.toInt + 1)) := by rw [ex95]; exact ti_add hx25 hx94 (by omega) (by omega)
                      refine v_iload C 6 dX9_find_240 rfl ?_
                      refine v_ast C 80 dX9_find_242 (by omega) hE90 (ti_in hx95 (by omega) (by omega)) (fun E96 hE96_80 oE96 => ?_)
                      rw [ti_cl hx95] at hE96_80
                      have hE96_68 := (oE96 68 (by decide)).trans hM61.2.2.1
                      have hE96_83 := (oE96 83 (by decide)).trans hE63
                      have hE96_81 := (oE96 81 (by decide)).trans hE67
                      have hJ97 := hJ45.with (hJ45.2.1.setA rfl (by unfold PR; omega) hb90 (ti_any x69) hE96_80 oE96) (oE96 68 (by decide)) (oE96 69 (by decide)) (oE96 70 (by decide))
                      have hM98 := hM61.of (oE96 68 (by decide)) (oE96 69 (by decide)) (oE96 70 (by decide))
                      refine v_aload_n C 0 dX9_find_243 rfl rfl ?_
                      refine v_getr C 68 dX9_find_244 fX9_64 (by omega) hM98.2.2.1 rfl rfl ?_
                      refine v_iload_n C 3 dX9_find_247 rfl rfl ?_
                      refine v_iload C 4 dX9_find_248 rfl ?_
                      refine v_iadd C dX9_find_250 ?_
                      refine v_top (fun x99 ex99 => ?_)
                      have hx99 : x99.toInt = ((801 * x.toInt) + (y40.toInt + 1)) := by rw [ex99]; exact ti_add hx25 hx94 (by omega) (by omega)
                      refine v_aload_n C 0 dX9_find_251 rfl rfl ?_
                      refine v_getr C 68 dX9_find_252 fX9_73 (by omega) hM98.2.2.1 rfl rfl ?_
                      refine v_iload C 5 dX9_find_255 rfl ?_
                      obtain ⟨f101, hE101, hb101⟩ := hJ97.2.1.getA (b := 84) (by omega) rfl
                      refine v_ald (v := f101 (y41.toInt).toNat) C 84 dX9_find_257 (by omega) hE101 (ti_in (rfl : Int32.toInt y41 = _) (by omega) (by omega)) (by rw [ti_cl (rfl : Int32.toInt y41 = _)]) ?_
                      refine v_top (fun x102 _ => ?_)
                      refine v_ast C 81 dX9_find_258 (by omega) hE96_81 (ti_in hx99 (by omega) (by omega)) (fun E103 hE103_81 oE103 => ?_)
                      rw [ti_cl hx99] at hE103_81
                      have hE103_68 := (oE103 68 (by decide)).trans hM98.2.2.1
                      have hE103_83 := (oE103 83 (by decide)).trans hE96_83
                      have hE103_84 := (oE103 84 (by decide)).trans hE101
                      have hJ104 := hJ97.with (hJ97.2.1.setA rfl (by unfold PR; omega) hb67 (ti_any x102) hE103_81 oE103) (oE103 68 (by decide)) (oE103 69 (by decide)) (oE103 70 (by decide))
                      have hM105 := hM98.of (oE103 68 (by decide)) (oE103 69 (by decide)) (oE103 70 (by decide))
                      obtain ⟨x106, ex106⟩ : ∃ y : Int32, y = y41 + 1 := ⟨_, rfl⟩
                      have hx106 : x106.toInt = (y41.toInt + 1) := by rw [ex106]; exact ti_add (rfl : Int32.toInt y41 = _) (show (1 : Int32).toInt = 1 by decide) (by omega) (by omega)
                      refine v_iinc (v := x106) (lv' := [(0, .ref (ad 68)), (1, .int x), (2, .int y8), (3, .int x25), (4, .int x94), (5, .int x106), (6, .int x69)]) C 5 [1, 2, 3, 4, 5, 0, 6] dX9_find_259 rfl (ex106.symm) (by decide) rfl ?_
                      refine v_goto C 180 dX9_find_262 (by decide) ?_
                      refine v_sub (lv' := [(0, .ref (ad 68)), (1, .int x), (2, .int y8), (3, .int x25), (4, .int x94), (5, .int x106)]) [0, 1, 2, 3, 4, 5] rfl ?_
                      exact ih46 _ x94 x106 hJ104 (by have := hx94; have := hx106; omega) (by have := hx94; have := hx106; omega) (by have := hx94; have := hx106; omega) (by have := hx94; have := hx106; omega) (by have := hx94; have := hx106; omega)
          exact LP39 100000 _ 0 0 hJ37 (by have := (show (0 : Int32).toInt = 0 by decide); omega) (by have := (show (0 : Int32).toInt = 0 by decide); omega) (by have := (show (0 : Int32).toInt = 0 by decide); omega) (by have := (show (0 : Int32).toInt = 0 by decide); omega) (by have := (show (0 : Int32).toInt = 0 by decide); omega)
        · refine v_aload_n C 0 dX9_find_32 rfl rfl ?_
          refine v_getr C 68 dX9_find_33 fX9_32 (by omega) hM19.2.2.1 rfl rfl ?_
          refine v_iload_n C 3 dX9_find_36 rfl rfl ?_
          obtain ⟨f108, hE108, hb108⟩ := hJ14.2.1.getA (b := 72) (by omega) rfl
          refine v_ald (v := f108 (y9.toInt).toNat) C 72 dX9_find_37 (by omega) hE108 (ti_in (rfl : Int32.toInt y9 = _) (by omega) (by omega)) (by rw [ti_cl (rfl : Int32.toInt y9 = _)]) ?_
          refine v_top (fun x109 ex109 => ?_)
          have hx109 : (0 : Int) ≤ x109.toInt ∧ x109.toInt ≤ 99 := by rw [ex109]; exact hb108 _
          refine v_istore (lv' := [(0, .ref (ad 68)), (1, .int x), (2, .int y8), (3, .int y9), (4, .int x109)]) C [1, 2, 3, 4, 0] dX9_find_38 (by decide) rfl ?_
          have LP110 : ∀ (t : Nat) (E114 : Nat → va_E) (y111 : Int32) (y112 : Int32), JM G ad n ic md bd PR E0 E114 → ((0 : Int) ≤ y111.toInt ∧ y111.toInt ≤ 800) → ((0 : Int) ≤ y112.toInt ∧ y112.toInt ≤ 100) → (y111.toInt ≤ 100 * (y9.toInt - 8 * x.toInt) + y112.toInt) → 101 - y112.toInt < (t : Int) → V X G A 7 (QV X G A (n) ad (fun E' => JM G ad n ic md bd PR E0 E')) n ad 0 0 E114 40 [(0, .ref (ad 68)), (1, .int x), (2, .int y111), (3, .int y9), (4, .int y112)] [] := by
            intro t118
            induction t118 with
            | zero => intro E114 y111 y112 hJ115 hy111 hy112 hq113 hm117; exfalso; omega
            | succ t118 ih116 =>
              intro E114 y111 y112 hJ115 hy111 hy112 hq113 hm117
              refine v_iload C 4 dX9_find_40 rfl ?_
              refine v_aload_n C 0 dX9_find_42 rfl rfl ?_
              obtain ⟨im119, hM119, hb119⟩ := hJ115.1
              have hq119 := hM119.b
              refine v_getr C 68 dX9_find_43 fX9_35 (by omega) hM119.2.2.1 rfl rfl ?_
              refine v_iload_n C 3 dX9_find_46 rfl rfl ?_
              obtain ⟨f121, hE121, hb121⟩ := hJ115.2.1.getA (b := 73) (by omega) rfl
              refine v_ald (v := f121 (y9.toInt).toNat) C 73 dX9_find_47 (by omega) hE121 (ti_in (rfl : Int32.toInt y9 = _) (by omega) (by omega)) (by rw [ti_cl (rfl : Int32.toInt y9 = _)]) ?_
              refine v_top (fun x122 ex122 => ?_)
              have hx122 : (0 : Int) ≤ x122.toInt ∧ x122.toInt ≤ 99 := by rw [ex122]; exact hb121 _
              refine b_icmp_gt C 143 dX9_find_48 (by decide) (rfl : Int32.toInt y112 = _) (rfl : Int32.toInt x122 = _) (fun c123 => ?_) (fun c123 => ?_)
              · obtain ⟨x124, ex124⟩ : ∃ y : Int32, y = y9 + 1 := ⟨_, rfl⟩
                have hx124 : x124.toInt = (y9.toInt + 1) := by rw [ex124]; exact ti_add (rfl : Int32.toInt y9 = _) (show (1 : Int32).toInt = 1 by decide) (by omega) (by omega)
                refine v_iinc (v := x124) (lv' := [(0, .ref (ad 68)), (1, .int x), (2, .int y111), (3, .int x124), (4, .int y112)]) C 3 [1, 2, 3, 0, 4] dX9_find_143 rfl (ex124.symm) (by decide) rfl ?_
                refine v_goto C 17 dX9_find_146 (by decide) ?_
                refine v_sub (lv' := [(0, .ref (ad 68)), (1, .int x), (2, .int y111), (3, .int x124)]) [0, 1, 2, 3] rfl ?_
                exact ih15 _ y111 x124 hJ115 (by have := hx124; omega) (by have := hx124; omega) (by have := hx124; omega) (by have := hx124; omega) (by have := hx124; omega) (by have := hx124; omega)
              · refine v_aload_n C 0 dX9_find_51 rfl rfl ?_
                refine v_getr C 68 dX9_find_52 fX9_47 (by omega) hM119.2.2.1 rfl rfl ?_
                refine v_iload_n C 3 dX9_find_55 rfl rfl ?_
                obtain ⟨f126, hE126, hb126⟩ := hJ115.2.1.getA (b := 77) (by omega) rfl
                refine v_ald (v := f126 (y9.toInt).toNat) C 77 dX9_find_56 (by omega) hE126 (ti_in (rfl : Int32.toInt y9 = _) (by omega) (by omega)) (by rw [ti_cl (rfl : Int32.toInt y9 = _)]) ?_
                refine v_top (fun x127 _ => ?_)
                refine v_aload_n C 0 dX9_find_57 rfl rfl ?_
                refine v_geti (v := im119 18) C 68 dX9_find_58 fX9_54 (by omega) hM119.2.2.1 rfl rfl ?_
                refine b_icmp_gt C 143 dX9_find_61 (by decide) (rfl : Int32.toInt x127 = _) (rfl : Int32.toInt (im119 18) = _) (fun c128 => ?_) (fun c128 => ?_)
                · obtain ⟨x129, ex129⟩ : ∃ y : Int32, y = y9 + 1 := ⟨_, rfl⟩
                  have hx129 : x129.toInt = (y9.toInt + 1) := by rw [ex129]; exact ti_add (rfl : Int32.toInt y9 = _) (show (1 : Int32).toInt = 1 by decide) (by omega) (by omega)
                  refine v_iinc (v := x129) (lv' := [(0, .ref (ad 68)), (1, .int x), (2, .int y111), (3, .int x129), (4, .int y112)]) C 3 [1, 2, 3, 0, 4] dX9_find_143 rfl (ex129.symm) (by decide) rfl ?_
                  refine v_goto C 17 dX9_find_146 (by decide) ?_
                  refine v_sub (lv' := [(0, .ref (ad 68)), (1, .int x), (2, .int y111), (3, .int x129)]) [0, 1, 2, 3] rfl ?_
                  exact ih15 _ y111 x129 hJ115 (by have := hx129; omega) (by have := hx129; omega) (by have := hx129; omega) (by have := hx129; omega) (by have := hx129; omega) (by have := hx129; omega)
                · refine v_aload_n C 0 dX9_find_64 rfl rfl ?_
                  refine v_bipush (v := 12) C dX9_find_65 (by decide) ?_
                  refine v_iload C 4 dX9_find_67 rfl ?_
                  refine v_imul C dX9_find_69 ?_
                  refine v_top (fun x130 ex130 => ?_)
                  have hx130 : x130.toInt = (12 * y112.toInt) := by rw [ex130]; exact ti_mul (show (12 : Int32).toInt = 12 by decide) (rfl : Int32.toInt y112 = _) (by omega) (by omega)
                  refine v_aload_n C 0 dX9_find_70 rfl rfl ?_
                  refine v_getr C 68 dX9_find_71 fX9_38 (by omega) hM119.2.2.1 rfl rfl ?_
                  refine v_iload_n C 3 dX9_find_74 rfl rfl ?_
                  obtain ⟨f132, hE132, hb132⟩ := hJ115.2.1.getA (b := 74) (by omega) rfl
                  refine v_ald (v := f132 (y9.toInt).toNat) C 74 dX9_find_75 (by omega) hE132 (ti_in (rfl : Int32.toInt y9 = _) (by omega) (by omega)) (by rw [ti_cl (rfl : Int32.toInt y9 = _)]) ?_
                  refine v_top (fun x133 ex133 => ?_)
                  have hx133 : (0 : Int) ≤ x133.toInt ∧ x133.toInt ≤ 11999 := by rw [ex133]; exact hb132 _
                  refine v_sipush (v := 1000) C dX9_find_76 (by decide) ?_
                  refine v_idiv C dX9_find_79 (by decide) ?_
                  refine v_top (fun x134 ex134 => ?_)
                  have hx134 : x134.toInt = (x133.toInt / 1000) := by rw [ex134]; exact ti_div (rfl : Int32.toInt x133 = _) (show (1000 : Int32).toInt = 1000 by decide) (by omega) (by omega)
                  refine v_iadd C dX9_find_80 ?_
                  refine v_top (fun x135 ex135 => ?_)
                  have hx135 : x135.toInt = ((12 * y112.toInt) + (x133.toInt / 1000)) := by rw [ex135]; exact ti_add hx130 hx134 (by omega) (by omega)
                  refine v_aload_n C 0 dX9_find_81 rfl rfl ?_
                  refine v_getr C 68 dX9_find_82 fX9_38 (by omega) hM119.2.2.1 rfl rfl ?_
                  refine v_iload_n C 3 dX9_find_85 rfl rfl ?_
                  refine v_ald (v := f132 (y9.toInt).toNat) C 74 dX9_find_86 (by omega) hE132 (ti_in (rfl : Int32.toInt y9 = _) (by omega) (by omega)) (by rw [ti_cl (rfl : Int32.toInt y9 = _)]) ?_
                  refine v_top (fun x136 ex136 => ?_)
                  have hx136 : (0 : Int) ≤ x136.toInt ∧ x136.toInt ≤ 11999 := by rw [ex136]; exact hb132 _
                  refine v_bipush (v := 10) C dX9_find_87 (by decide) ?_
                  refine v_idiv C dX9_find_89 (by decide) ?_
                  refine v_top (fun x137 ex137 => ?_)
                  have hx137 : x137.toInt = (x136.toInt / 10) := by rw [ex137]; exact ti_div (rfl : Int32.toInt x136 = _) (show (10 : Int32).toInt = 10 by decide) (by omega) (by omega)
                  refine v_bipush (v := 100) C dX9_find_90 (by decide) ?_
                  refine v_irem C dX9_find_92 (by decide) ?_
                  refine v_top (fun x138 ex138 => ?_)
                  have hx138 : x138.toInt = ((x136.toInt / 10) % 100) := by rw [ex138]; exact ti_rem hx137 (show (100 : Int32).toInt = 100 by decide) (by omega) (by omega)
                  refine v_aload_n C 0 dX9_find_93 rfl rfl ?_
                  refine v_getr C 68 dX9_find_94 fX9_38 (by omega) hM119.2.2.1 rfl rfl ?_
                  refine v_iload_n C 3 dX9_find_97 rfl rfl ?_
                  refine v_ald (v := f132 (y9.toInt).toNat) C 74 dX9_find_98 (by omega) hE132 (ti_in (rfl : Int32.toInt y9 = _) (by omega) (by omega)) (by rw [ti_cl (rfl : Int32.toInt y9 = _)]) ?_
                  refine v_top (fun x139 ex139 => ?_)
                  have hx139 : (0 : Int) ≤ x139.toInt ∧ x139.toInt ≤ 11999 := by rw [ex139]; exact hb132 _
                  refine v_bipush (v := 10) C dX9_find_99 (by decide) ?_
                  refine v_irem C dX9_find_101 (by decide) ?_
                  refine v_top (fun x140 ex140 => ?_)
                  have hx140 : x140.toInt = (x139.toInt % 10) := by rw [ex140]; exact ti_rem (rfl : Int32.toInt x139 = _) (show (10 : Int32).toInt = 10 by decide) (by omega) (by omega)
                  refine v_cVi C dX9_find_102 lX9_156 mX9_nthOf 68 (by omega) hM119.2.2.1 (by decide) rfl (t_X9_nthOf l G ad hJ115 x135 (show (0 : Int) ≤ Int32.toInt x135 ∧ Int32.toInt x135 ≤ 1199 by have := hx135; omega) x138 x140) ⟨by decide, by decide⟩ rfl (Nat.le_of_ble_eq_true rfl) ⟨Nat.zero_le _, Nat.zero_le _⟩ (fun r141 E142 hp143 => ?_)
                  obtain ⟨hp143, hJ144⟩ := hp143
                  refine v_istore (lv' := [(0, .ref (ad 68)), (1, .int x), (2, .int y111), (3, .int y9), (4, .int y112), (5, .int r141)]) C [1, 2, 3, 4, 5, 0] dX9_find_105 (by decide) rfl ?_
                  refine v_iload C 5 dX9_find_107 rfl ?_
                  refine b_if_lt C 137 dX9_find_109 (by decide) (rfl : Int32.toInt r141 = _) (fun c145 => ?_) (fun c145 => ?_)
                  · obtain ⟨x146, ex146⟩ : ∃ y : Int32, y = y112 + 1 := ⟨_, rfl⟩
                    have hx146 : x146.toInt = (y112.toInt + 1) := by rw [ex146]; exact ti_add (rfl : Int32.toInt y112 = _) (show (1 : Int32).toInt = 1 by decide) (by omega) (by omega)
                    refine v_iinc (v := x146) (lv' := [(0, .ref (ad 68)), (1, .int x), (2, .int y111), (3, .int y9), (4, .int x146), (5, .int r141)]) C 4 [1, 2, 3, 4, 0, 5] dX9_find_137 rfl (ex146.symm) (by decide) rfl ?_
                    refine v_goto C 40 dX9_find_140 (by decide) ?_
                    refine v_sub (lv' := [(0, .ref (ad 68)), (1, .int x), (2, .int y111), (3, .int y9), (4, .int x146)]) [0, 1, 2, 3, 4] rfl ?_
                    exact ih116 _ y111 x146 hJ144 (by have := hx146; omega) (by have := hx146; omega) (by have := hx146; omega) (by have := hx146; omega)
                  · refine v_aload_n C 0 dX9_find_112 rfl rfl ?_
                    refine v_iload_n C 2 dX9_find_113 rfl rfl ?_
                    refine v_sipush (v := 1440) C dX9_find_114 (by decide) ?_
                    refine v_iload C 5 dX9_find_117 rfl ?_
                    refine v_imul C dX9_find_119 ?_
                    refine v_top (fun x147 _ => ?_)
                    refine v_aload_n C 0 dX9_find_120 rfl rfl ?_
                    obtain ⟨im148, hM148, hb148⟩ := hJ144.1
                    have hq148 := hM148.b
                    refine v_getr C 68 dX9_find_121 fX9_41 (by omega) hM148.2.2.1 rfl rfl ?_
                    refine v_iload_n C 3 dX9_find_124 rfl rfl ?_
                    obtain ⟨f150, hE150, hb150⟩ := hJ144.2.1.getA (b := 75) (by omega) rfl
                    refine v_ald (v := f150 (y9.toInt).toNat) C 75 dX9_find_125 (by omega) hE150 (ti_in (rfl : Int32.toInt y9 = _) (by omega) (by omega)) (by rw [ti_cl (rfl : Int32.toInt y9 = _)]) ?_
                    refine v_top (fun x151 _ => ?_)
                    refine v_iadd C dX9_find_126 ?_
                    refine v_top (fun x152 _ => ?_)
                    refine v_aload_n C 0 dX9_find_127 rfl rfl ?_
                    refine v_getr C 68 dX9_find_128 fX9_44 (by omega) hM148.2.2.1 rfl rfl ?_
                    refine v_iload_n C 3 dX9_find_131 rfl rfl ?_
                    obtain ⟨f154, hE154, hb154⟩ := hJ144.2.1.getA (b := 76) (by omega) rfl
                    refine v_ald (v := f154 (y9.toInt).toNat) C 76 dX9_find_132 (by omega) hE154 (ti_in (rfl : Int32.toInt y9 = _) (by omega) (by omega)) (by rw [ti_cl (rfl : Int32.toInt y9 = _)]) ?_
                    refine v_top (fun x155 _ => ?_)
                    refine v_cVi C dX9_find_133 lX9_168 mX9_say 68 (by omega) hM148.2.2.1 (by decide) rfl (t_X9_say l G ad hJ144 y111 (show (0 : Int) ≤ Int32.toInt y111 ∧ Int32.toInt y111 ≤ 799 by omega) x152 x155) ⟨by decide, by decide⟩ rfl (Nat.le_of_ble_eq_true rfl) ⟨Nat.zero_le _, Nat.zero_le _⟩ (fun r156 E157 hp158 => ?_)
                    obtain ⟨hp158, hJ159⟩ := hp158
                    refine v_istore_n (lv' := [(0, .ref (ad 68)), (1, .int x), (2, .int r156), (3, .int y9), (4, .int y112), (5, .int r141)]) C [1, 2, 0, 3, 4, 5] dX9_find_136 rfl (by decide) rfl ?_
                    obtain ⟨x160, ex160⟩ : ∃ y : Int32, y = y112 + 1 := ⟨_, rfl⟩
                    have hx160 : x160.toInt = (y112.toInt + 1) := by rw [ex160]; exact ti_add (rfl : Int32.toInt y112 = _) (show (1 : Int32).toInt = 1 by decide) (by omega) (by omega)
                    refine v_iinc (v := x160) (lv' := [(0, .ref (ad 68)), (1, .int x), (2, .int r156), (3, .int y9), (4, .int x160), (5, .int r141)]) C 4 [1, 2, 3, 4, 0, 5] dX9_find_137 rfl (ex160.symm) (by decide) rfl ?_
                    refine v_goto C 40 dX9_find_140 (by decide) ?_
                    refine v_sub (lv' := [(0, .ref (ad 68)), (1, .int x), (2, .int r156), (3, .int y9), (4, .int x160)]) [0, 1, 2, 3, 4] rfl ?_
                    exact ih116 _ r156 x160 hJ159 (by have := hx160; omega) (by have := hx160; omega) (by have := hx160; omega) (by have := hx160; omega)
          exact LP110 100000 _ y8 x109 hJ14 (by omega) (by omega) (by omega) (by omega)
    exact LP7 100000 _ 0 x6 hJ (by have := (show (0 : Int32).toInt = 0 by decide); have := hx6; omega) (by have := (show (0 : Int32).toInt = 0 by decide); have := hx6; omega) (by have := (show (0 : Int32).toInt = 0 by decide); have := hx6; omega) (by have := (show (0 : Int32).toInt = 0 by decide); have := hx6; omega) (by have := (show (0 : Int32).toInt = 0 by decide); have := hx6; omega) (by have := (show (0 : Int32).toInt = 0 by decide); have := hx6; omega)
  · exact v_vret C dX9_find_9 rfl hJ

