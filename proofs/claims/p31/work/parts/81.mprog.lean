set_option maxRecDepth 20000 in
theorem t_X9_isTop (l : Launch) (G : Gl) (ad : Nat → Nat) {n : Nat} {ic md : Nat → Int32} {bd : Nat → Int × Int} {E0 E : Nat → va_E} {h : Int} (hJ : JM G ad n ic md (upB bd 35 (h, h)) PR E0 E) (hh : 0 ≤ h ∧ h ≤ 8) (x : Int32) : CtI l G yX9_isTop cX9_isTop 2 .boolean 0 0 (n) ad E [.ref (ad 68), .int x] (fun r E' => ((r = 1 ∧ 1 ≤ h) ∨ (r = 0 ∧ (0 : Int) ≤ h)) ∧ E = E') := by
  refine CtI.of (by decide) (Nat.le_of_ble_eq_true rfl) (fun X A C => ?_)
  refine v_sub (lv' := [(0, .ref (ad 68)), (1, .int x)]) [0, 1] rfl ?_
  have hn := hJ.hn
  have hz16 := upB_n16 (by decide) hJ.2.2.2.2
  refine v_aload_n C 0 dX9_isTop_0 rfl rfl ?_
  obtain ⟨im1, hM1, hb1⟩ := hJ.1
  have hq1 := hM1.b
  refine v_geti (v := im1 35) C 68 dX9_isTop_1 fX9_203 (by omega) hM1.2.2.1 rfl rfl ?_
  have him1_35 : (h : Int) ≤ (im1 35).toInt ∧ (im1 35).toInt ≤ h := hb1 35
  refine b_if_le C 26 dX9_isTop_4 (by decide) (rfl : Int32.toInt (im1 35) = _) (fun c2 => ?_) (fun c2 => ?_)
  · refine v_iconst (v := 0) C dX9_isTop_26 (by decide) ?_
    exact v_ret C dX9_isTop_27 rfl rfl ⟨Or.inr ⟨rfl, by omega⟩, rfl⟩
  · refine v_aload_n C 0 dX9_isTop_7 rfl rfl ?_
    refine v_getr C 68 dX9_isTop_8 fX9_97 (by omega) hM1.2.2.1 rfl rfl ?_
    refine v_aload_n C 0 dX9_isTop_11 rfl rfl ?_
    refine v_geti (v := im1 35) C 68 dX9_isTop_12 fX9_203 (by omega) hM1.2.2.1 rfl rfl ?_
    refine v_iconst (v := 1) C dX9_isTop_15 (by decide) ?_
    refine v_isub C dX9_isTop_16 ?_
    refine v_top (fun x3 ex3 => ?_)
    have hx3 : x3.toInt = ((im1 35).toInt - 1) := by rw [ex3]; exact ti_sub (rfl : Int32.toInt (im1 35) = _) (show (1 : Int32).toInt = 1 by decide) (by omega) (by omega)
    obtain ⟨f5, hE5, hb5⟩ := hJ.2.1.getA (b := 92) (by omega) rfl
    refine v_ald (v := f5 (((im1 35).toInt - 1)).toNat) C 92 dX9_isTop_17 (by omega) hE5 (ti_in hx3 (by omega) (by omega)) (by rw [ti_cl hx3]) ?_
    refine v_top (fun x6 _ => ?_)
    refine v_iload_n C 1 dX9_isTop_18 rfl rfl ?_
    refine b_icmp_ne C 26 dX9_isTop_19 (by decide) (rfl : Int32.toInt x6 = _) (rfl : Int32.toInt x = _) (fun c7 => ?_) (fun c7 => ?_)
    · refine v_iconst (v := 0) C dX9_isTop_26 (by decide) ?_
      exact v_ret C dX9_isTop_27 rfl rfl ⟨Or.inr ⟨rfl, by omega⟩, rfl⟩
    · refine v_iconst (v := 1) C dX9_isTop_22 (by decide) ?_
      refine v_goto C 27 dX9_isTop_23 (by decide) ?_
      exact v_ret C dX9_isTop_27 rfl rfl ⟨Or.inl ⟨rfl, by omega⟩, rfl⟩

set_option maxRecDepth 20000 in
theorem t_X9_laid (l : Launch) (G : Gl) (ad : Nat → Nat) {n : Nat} {ic md : Nat → Int32} {bd : Nat → Int × Int} {E0 E : Nat → va_E} {h : Int} (hJ : JM G ad n ic md (upB bd 35 (h, h)) PR E0 E) (hh : 0 ≤ h ∧ h ≤ 8) (x : Int32) : CtI l G yX9_laid cX9_laid 2 .boolean 0 0 (n) ad E [.ref (ad 68), .int x] (fun r E' => (r = 1 ∧ h + 1 ≤ 8 ∧ JM G ad n ic md (upB bd 35 (h + 1, h + 1)) PR E0 E') ∨ (r = 0 ∧ JM G ad n ic md (upB bd 35 (h, h)) PR E0 E')) := by
  refine CtI.of (by decide) (Nat.le_of_ble_eq_true rfl) (fun X A C => ?_)
  refine v_sub (lv' := [(0, .ref (ad 68)), (1, .int x)]) [0, 1] rfl ?_
  have hn := hJ.hn
  have hz16 := upB_n16 (by decide) hJ.2.2.2.2
  refine v_aload_n C 0 dX9_laid_0 rfl rfl ?_
  obtain ⟨im1, hM1, hb1⟩ := hJ.1
  have hq1 := hM1.b
  refine v_geti (v := im1 35) C 68 dX9_laid_1 fX9_203 (by omega) hM1.2.2.1 rfl rfl ?_
  have him1_35 : (h : Int) ≤ (im1 35).toInt ∧ (im1 35).toInt ≤ h := hb1 35
  refine v_bipush (v := 8) C dX9_laid_4 (by decide) ?_
  refine b_icmp_ne C 11 dX9_laid_6 (by decide) (rfl : Int32.toInt (im1 35) = _) (show (8 : Int32).toInt = 8 by decide) (fun c2 => ?_) (fun c2 => ?_)
  · refine v_aload_n C 0 dX9_laid_11 rfl rfl ?_
    refine v_getr C 68 dX9_laid_12 fX9_97 (by omega) hM1.2.2.1 rfl rfl ?_
    refine v_aload_n C 0 dX9_laid_15 rfl rfl ?_
    refine v_geti (v := im1 35) C 68 dX9_laid_16 fX9_203 (by omega) hM1.2.2.1 rfl rfl ?_
    refine v_iload_n C 1 dX9_laid_19 rfl rfl ?_
    obtain ⟨f4, hE4, hb4⟩ := hJ.2.1.getA (b := 92) (by omega) rfl
    refine v_ast C 92 dX9_laid_20 (by omega) hE4 (ti_in (rfl : Int32.toInt (im1 35) = _) (by omega) (by omega)) (fun E5 hE5_92 oE5 => ?_)
    rw [ti_cl (rfl : Int32.toInt (im1 35) = _)] at hE5_92
    have hE5_68 := (oE5 68 (by decide)).trans hM1.2.2.1
    have hJ6 := hJ.with (hJ.2.1.setA rfl (by unfold PR; omega) hb4 (ti_any x) hE5_92 oE5) (oE5 68 (by decide)) (oE5 69 (by decide)) (oE5 70 (by decide))
    have hM7 := hM1.of (oE5 68 (by decide)) (oE5 69 (by decide)) (oE5 70 (by decide))
    refine v_aload_n C 0 dX9_laid_21 rfl rfl ?_
    refine v_dup C dX9_laid_22 rfl ?_
    refine v_geti (v := im1 35) C 68 dX9_laid_23 fX9_203 (by omega) hM7.2.2.1 rfl rfl ?_
    refine v_iconst (v := 1) C dX9_laid_26 (by decide) ?_
    refine v_iadd C dX9_laid_27 ?_
    refine v_top (fun x8 ex8 => ?_)
    have hx8 : x8.toInt = ((im1 35).toInt + 1) := by rw [ex8]; exact ti_add (rfl : Int32.toInt (im1 35) = _) (show (1 : Int32).toInt = 1 by decide) (by omega) (by omega)
    refine v_puti C 68 dX9_laid_28 fX9_203 (by omega) hM7.2.2.1 rfl rfl rfl rfl (fun E9 hE9_68 oE9 => ?_)
    obtain ⟨hJ10, hM11, hb12⟩ := hJ6.putB hM7 hb1 (k := 35) (v := x8) (by decide) (by unfold PR; omega) hE9_68 oE9
    refine v_iconst (v := 1) C dX9_laid_31 (by decide) ?_
    exact v_ret C dX9_laid_32 rfl rfl (Or.inl ⟨rfl, by omega, hJ10.toB (by decide) (by omega) (by omega)⟩)
  · refine v_iconst (v := 0) C dX9_laid_9 (by decide) ?_
    exact v_ret C dX9_laid_10 rfl rfl (Or.inr ⟨rfl, hJ.toB (by decide) (by omega) (by omega)⟩)

set_option maxRecDepth 20000 in
theorem t_X9_became (l : Launch) (G : Gl) (ad : Nat → Nat) {n : Nat} {ic md : Nat → Int32} {bd : Nat → Int × Int} {E0 E : Nat → va_E} {h : Int} (hJ : JM G ad n ic md (upB bd 35 (h, h)) PR E0 E) (hh : 0 ≤ h ∧ h ≤ 8) (x : Int32) (y : Int32) : CtI l G yX9_became cX9_became 3 .boolean 1 21 (n) ad E [.ref (ad 68), .int x, .int y] (fun r E' => (r = 1 ∧ 1 ≤ h ∧ JM G ad n ic md (upB bd 35 (h, h)) PR E0 E') ∨ (r = 0 ∧ JM G ad n ic md (upB bd 35 (h, h)) PR E0 E')) := by
  refine CtI.of (by decide) (Nat.le_of_ble_eq_true rfl) (fun X A C => ?_)
  refine v_sub (lv' := [(0, .ref (ad 68)), (1, .int x), (2, .int y)]) [0, 1, 2] rfl ?_
  have hn := hJ.hn
  have hz16 := upB_n16 (by decide) hJ.2.2.2.2
  refine v_aload_n C 0 dX9_became_0 rfl rfl ?_
  refine v_iload_n C 1 dX9_became_1 rfl rfl ?_
  obtain ⟨im3, hM3, hb3⟩ := hJ.1
  have hq3 := hM3.b
  refine v_cVp C dX9_became_2 lX9_213 mX9_isTop 68 (by omega) hM3.2.2.1 (by decide) rfl (t_X9_isTop l G ad hJ (show (0 : Int) ≤ h ∧ h ≤ 8 by omega) x) ⟨by decide, by decide⟩ rfl (Nat.le_of_ble_eq_true rfl) ⟨Nat.zero_le _, Nat.zero_le _⟩ (fun r1 hp2 => ?_)
  rcases hp2 with ⟨rfl, hp2⟩ | ⟨rfl, hp2⟩
  · refine b_if_ne C 10 dX9_became_5 (by decide) (show (1 : Int32).toInt = 1 by decide) (fun c4 => ?_) (fun c4 => absurd c4 (by decide))
    refine v_aload_n C 0 dX9_became_10 rfl rfl ?_
    refine v_getr C 68 dX9_became_11 fX9_97 (by omega) hM3.2.2.1 rfl rfl ?_
    refine v_aload_n C 0 dX9_became_14 rfl rfl ?_
    refine v_geti (v := im3 35) C 68 dX9_became_15 fX9_203 (by omega) hM3.2.2.1 rfl rfl ?_
    have him3_35 : (h : Int) ≤ (im3 35).toInt ∧ (im3 35).toInt ≤ h := hb3 35
    refine v_iconst (v := 1) C dX9_became_18 (by decide) ?_
    refine v_isub C dX9_became_19 ?_
    refine v_top (fun x5 ex5 => ?_)
    have hx5 : x5.toInt = ((im3 35).toInt - 1) := by rw [ex5]; exact ti_sub (rfl : Int32.toInt (im3 35) = _) (show (1 : Int32).toInt = 1 by decide) (by omega) (by omega)
    refine v_iload_n C 2 dX9_became_20 rfl rfl ?_
    obtain ⟨f7, hE7, hb7⟩ := hJ.2.1.getA (b := 92) (by omega) rfl
    refine v_ast C 92 dX9_became_21 (by omega) hE7 (ti_in hx5 (by omega) (by omega)) (fun E8 hE8_92 oE8 => ?_)
    rw [ti_cl hx5] at hE8_92
    have hE8_68 := (oE8 68 (by decide)).trans hM3.2.2.1
    have hJ9 := hJ.with (hJ.2.1.setA rfl (by unfold PR; omega) hb7 (ti_any y) hE8_92 oE8) (oE8 68 (by decide)) (oE8 69 (by decide)) (oE8 70 (by decide))
    have hM10 := hM3.of (oE8 68 (by decide)) (oE8 69 (by decide)) (oE8 70 (by decide))
    refine v_iconst (v := 1) C dX9_became_22 (by decide) ?_
    exact v_ret C dX9_became_23 rfl rfl (Or.inl ⟨rfl, by omega, hJ9.toB (by decide) (by omega) (by omega)⟩)
  · refine b_if_ne C 10 dX9_became_5 (by decide) (show (0 : Int32).toInt = 0 by decide) (fun c11 => absurd c11 (by decide)) (fun c11 => ?_)
    refine v_iconst (v := 0) C dX9_became_8 (by decide) ?_
    exact v_ret C dX9_became_9 rfl rfl (Or.inr ⟨rfl, hJ.toB (by decide) (by omega) (by omega)⟩)

set_option maxRecDepth 20000 in
theorem t_X9_fits (l : Launch) (G : Gl) (ad : Nat → Nat) {n : Nat} {ic md : Nat → Int32} {bd : Nat → Int × Int} {E0 E : Nat → va_E} {h : Int} (hJ : JM G ad n ic md (upB bd 35 (h, h)) PR E0 E) (hh : 0 ≤ h ∧ h ≤ 8) (x : Int32) : CtI l G yX9_fits cX9_fits 3 .boolean 2 43 (n) ad E [.ref (ad 68), .int x] (fun r E' => (r = 1 ∧ (ned x.toInt ≤ h ∧ h + dlt x.toInt ≤ 8) ∧ JM G ad n ic md (upB bd 35 (h + dlt x.toInt, h + dlt x.toInt)) PR E0 E') ∨ (r = 0 ∧ JM G ad n ic md (upB bd 35 (0, 8)) PR E0 E')) := by
  refine CtI.of (by decide) (Nat.le_of_ble_eq_true rfl) (fun X A C => ?_)
  refine v_sub (lv' := [(0, .ref (ad 68)), (1, .int x)]) [0, 1] rfl ?_
  have hn := hJ.hn
  have hz16 := upB_n16 (by decide) hJ.2.2.2.2
  refine v_iload_n C 1 dX9_fits_0 rfl rfl ?_
  have q1v : Int32.toInt x = x.toInt := (rfl : Int32.toInt x = _)
  rcases (show x.toInt = 0 ∨ x.toInt = 1 ∨ x.toInt = 2 ∨ x.toInt = 3 ∨ x.toInt = 4 ∨ x.toInt = 5 ∨ x.toInt = 6 ∨ x.toInt = 7 ∨ x.toInt = 8 ∨ x.toInt = 9 ∨ x.toInt = 10 ∨ (x.toInt < 0 ∨ 10 < x.toInt) by omega) with q1 | q1 | q1 | q1 | q1 | q1 | q1 | q1 | q1 | q1 | q1 | q1
  · refine v_tableIn (off := 59) C 60 dX9_fits_1 (by omega) (by omega) (by rw [q1v, q1]; rfl) (by decide) ?_
    have hnn := ned_0 (x := x.toInt) (by omega)
    have hdd := dlt_1 (x := x.toInt) (by omega)
    refine v_aload_n C 0 dX9_fits_60 rfl rfl ?_
    refine v_iconst (v := 0) C dX9_fits_61 (by decide) ?_
    obtain ⟨im6, hM6, hb6⟩ := hJ.1
    have hq6 := hM6.b
    refine v_cVi C dX9_fits_62 lX9_206 mX9_laid 68 (by omega) hM6.2.2.1 (by decide) rfl (t_X9_laid l G ad hJ (show (0 : Int) ≤ h ∧ h ≤ 8 by omega) 0) ⟨by decide, by decide⟩ rfl (Nat.le_of_ble_eq_true rfl) ⟨Nat.zero_le _, Nat.zero_le _⟩ (fun r2 E3 hp4 => ?_)
    rcases hp4 with ⟨rfl, hp4, hJ5⟩ | ⟨rfl, hJ5⟩
    · exact v_ret C dX9_fits_65 rfl rfl (Or.inl ⟨rfl, ⟨by omega, by omega⟩, hJ5.toB (by decide) (by omega) (by omega)⟩)
    · exact v_ret C dX9_fits_65 rfl rfl (Or.inr ⟨rfl, hJ5.toB (by decide) (by omega) (by omega)⟩)
  · refine v_tableIn (off := 65) C 66 dX9_fits_1 (by omega) (by omega) (by rw [q1v, q1]; rfl) (by decide) ?_
    have hnn := ned_1 (x := x.toInt) (by omega)
    have hdd := dlt_0 (x := x.toInt) (by omega)
    refine v_aload_n C 0 dX9_fits_66 rfl rfl ?_
    refine v_iconst (v := 0) C dX9_fits_67 (by decide) ?_
    refine v_iconst (v := 1) C dX9_fits_68 (by decide) ?_
    obtain ⟨im11, hM11, hb11⟩ := hJ.1
    have hq11 := hM11.b
    refine v_cVi C dX9_fits_69 lX9_209 mX9_became 68 (by omega) hM11.2.2.1 (by decide) rfl (t_X9_became l G ad hJ (show (0 : Int) ≤ h ∧ h ≤ 8 by omega) 0 1) ⟨by decide, by decide⟩ rfl (Nat.le_of_ble_eq_true rfl) ⟨Nat.zero_le _, Nat.zero_le _⟩ (fun r7 E8 hp9 => ?_)
    rcases hp9 with ⟨rfl, hp9, hJ10⟩ | ⟨rfl, hJ10⟩
    · exact v_ret C dX9_fits_72 rfl rfl (Or.inl ⟨rfl, ⟨by omega, by omega⟩, hJ10.toB (by decide) (by omega) (by omega)⟩)
    · exact v_ret C dX9_fits_72 rfl rfl (Or.inr ⟨rfl, hJ10.toB (by decide) (by omega) (by omega)⟩)
  · refine v_tableIn (off := 72) C 73 dX9_fits_1 (by omega) (by omega) (by rw [q1v, q1]; rfl) (by decide) ?_
    have hnn := ned_1 (x := x.toInt) (by omega)
    have hdd := dlt_0 (x := x.toInt) (by omega)
    refine v_aload_n C 0 dX9_fits_73 rfl rfl ?_
    refine v_iconst (v := 1) C dX9_fits_74 (by decide) ?_
    refine v_iconst (v := 2) C dX9_fits_75 (by decide) ?_
    obtain ⟨im16, hM16, hb16⟩ := hJ.1
    have hq16 := hM16.b
    refine v_cVi C dX9_fits_76 lX9_209 mX9_became 68 (by omega) hM16.2.2.1 (by decide) rfl (t_X9_became l G ad hJ (show (0 : Int) ≤ h ∧ h ≤ 8 by omega) 1 2) ⟨by decide, by decide⟩ rfl (Nat.le_of_ble_eq_true rfl) ⟨Nat.zero_le _, Nat.zero_le _⟩ (fun r12 E13 hp14 => ?_)
    rcases hp14 with ⟨rfl, hp14, hJ15⟩ | ⟨rfl, hJ15⟩
    · exact v_ret C dX9_fits_79 rfl rfl (Or.inl ⟨rfl, ⟨by omega, by omega⟩, hJ15.toB (by decide) (by omega) (by omega)⟩)
    · exact v_ret C dX9_fits_79 rfl rfl (Or.inr ⟨rfl, hJ15.toB (by decide) (by omega) (by omega)⟩)
  · refine v_tableIn (off := 79) C 80 dX9_fits_1 (by omega) (by omega) (by rw [q1v, q1]; rfl) (by decide) ?_
    have hnn := ned_1 (x := x.toInt) (by omega)
    have hdd := dlt_0 (x := x.toInt) (by omega)
    refine v_aload_n C 0 dX9_fits_80 rfl rfl ?_
    refine v_iconst (v := 2) C dX9_fits_81 (by decide) ?_
    refine v_iconst (v := 1) C dX9_fits_82 (by decide) ?_
    obtain ⟨im21, hM21, hb21⟩ := hJ.1
    have hq21 := hM21.b
    refine v_cVi C dX9_fits_83 lX9_209 mX9_became 68 (by omega) hM21.2.2.1 (by decide) rfl (t_X9_became l G ad hJ (show (0 : Int) ≤ h ∧ h ≤ 8 by omega) 2 1) ⟨by decide, by decide⟩ rfl (Nat.le_of_ble_eq_true rfl) ⟨Nat.zero_le _, Nat.zero_le _⟩ (fun r17 E18 hp19 => ?_)
    rcases hp19 with ⟨rfl, hp19, hJ20⟩ | ⟨rfl, hJ20⟩
    · exact v_ret C dX9_fits_86 rfl rfl (Or.inl ⟨rfl, ⟨by omega, by omega⟩, hJ20.toB (by decide) (by omega) (by omega)⟩)
    · exact v_ret C dX9_fits_86 rfl rfl (Or.inr ⟨rfl, hJ20.toB (by decide) (by omega) (by omega)⟩)
  · refine v_tableIn (off := 86) C 87 dX9_fits_1 (by omega) (by omega) (by rw [q1v, q1]; rfl) (by decide) ?_
    have hnn := ned_1 (x := x.toInt) (by omega)
    have hdd := dlt_0 (x := x.toInt) (by omega)
    refine v_aload_n C 0 dX9_fits_87 rfl rfl ?_
    refine v_iconst (v := 1) C dX9_fits_88 (by decide) ?_
    refine v_iconst (v := 0) C dX9_fits_89 (by decide) ?_
    obtain ⟨im26, hM26, hb26⟩ := hJ.1
    have hq26 := hM26.b
    refine v_cVi C dX9_fits_90 lX9_209 mX9_became 68 (by omega) hM26.2.2.1 (by decide) rfl (t_X9_became l G ad hJ (show (0 : Int) ≤ h ∧ h ≤ 8 by omega) 1 0) ⟨by decide, by decide⟩ rfl (Nat.le_of_ble_eq_true rfl) ⟨Nat.zero_le _, Nat.zero_le _⟩ (fun r22 E23 hp24 => ?_)
    rcases hp24 with ⟨rfl, hp24, hJ25⟩ | ⟨rfl, hJ25⟩
    · exact v_ret C dX9_fits_93 rfl rfl (Or.inl ⟨rfl, ⟨by omega, by omega⟩, hJ25.toB (by decide) (by omega) (by omega)⟩)
    · exact v_ret C dX9_fits_93 rfl rfl (Or.inr ⟨rfl, hJ25.toB (by decide) (by omega) (by omega)⟩)
  · refine v_tableIn (off := 93) C 94 dX9_fits_1 (by omega) (by omega) (by rw [q1v, q1]; rfl) (by decide) ?_
    have hnn := ned_1 (x := x.toInt) (by omega)
    have hdd := dlt_0 (x := x.toInt) (by omega)
    refine v_aload_n C 0 dX9_fits_94 rfl rfl ?_
    refine v_iconst (v := 0) C dX9_fits_95 (by decide) ?_
    obtain ⟨im29, hM29, hb29⟩ := hJ.1
    have hq29 := hM29.b
    refine v_cVp C dX9_fits_96 lX9_213 mX9_isTop 68 (by omega) hM29.2.2.1 (by decide) rfl (t_X9_isTop l G ad hJ (show (0 : Int) ≤ h ∧ h ≤ 8 by omega) 0) ⟨by decide, by decide⟩ rfl (Nat.le_of_ble_eq_true rfl) ⟨Nat.zero_le _, Nat.zero_le _⟩ (fun r27 hp28 => ?_)
    rcases hp28 with ⟨rfl, hp28⟩ | ⟨rfl, hp28⟩
    · refine b_if_ne C 110 dX9_fits_99 (by decide) (show (1 : Int32).toInt = 1 by decide) (fun c30 => ?_) (fun c30 => absurd c30 (by decide))
      refine v_iconst (v := 1) C dX9_fits_110 (by decide) ?_
      refine v_goto C 115 dX9_fits_111 (by decide) ?_
      exact v_ret C dX9_fits_115 rfl rfl (Or.inl ⟨rfl, ⟨by omega, by omega⟩, hJ.toB (by decide) (by omega) (by omega)⟩)
    · refine b_if_ne C 110 dX9_fits_99 (by decide) (show (0 : Int32).toInt = 0 by decide) (fun c31 => absurd c31 (by decide)) (fun c31 => ?_)
      refine v_aload_n C 0 dX9_fits_102 rfl rfl ?_
      refine v_iconst (v := 1) C dX9_fits_103 (by decide) ?_
      refine v_cVp C dX9_fits_104 lX9_213 mX9_isTop 68 (by omega) hM29.2.2.1 (by decide) rfl (t_X9_isTop l G ad hJ (show (0 : Int) ≤ h ∧ h ≤ 8 by omega) 1) ⟨by decide, by decide⟩ rfl (Nat.le_of_ble_eq_true rfl) ⟨Nat.zero_le _, Nat.zero_le _⟩ (fun r32 hp33 => ?_)
      rcases hp33 with ⟨rfl, hp33⟩ | ⟨rfl, hp33⟩
      · refine b_if_eq C 114 dX9_fits_107 (by decide) (show (1 : Int32).toInt = 1 by decide) (fun c34 => absurd c34 (by decide)) (fun c34 => ?_)
        refine v_iconst (v := 1) C dX9_fits_110 (by decide) ?_
        refine v_goto C 115 dX9_fits_111 (by decide) ?_
        exact v_ret C dX9_fits_115 rfl rfl (Or.inl ⟨rfl, ⟨by omega, by omega⟩, hJ.toB (by decide) (by omega) (by omega)⟩)
      · refine b_if_eq C 114 dX9_fits_107 (by decide) (show (0 : Int32).toInt = 0 by decide) (fun c35 => ?_) (fun c35 => absurd c35 (by decide))
        refine v_iconst (v := 0) C dX9_fits_114 (by decide) ?_
        exact v_ret C dX9_fits_115 rfl rfl (Or.inr ⟨rfl, hJ.toB (by decide) (by omega) (by omega)⟩)
  · refine v_tableIn (off := 115) C 116 dX9_fits_1 (by omega) (by omega) (by rw [q1v, q1]; rfl) (by decide) ?_
    have hnn := ned_1 (x := x.toInt) (by omega)
    have hdd := dlt_0 (x := x.toInt) (by omega)
    refine v_aload_n C 0 dX9_fits_116 rfl rfl ?_
    refine v_iconst (v := 2) C dX9_fits_117 (by decide) ?_
    obtain ⟨im38, hM38, hb38⟩ := hJ.1
    have hq38 := hM38.b
    refine v_cVp C dX9_fits_118 lX9_213 mX9_isTop 68 (by omega) hM38.2.2.1 (by decide) rfl (t_X9_isTop l G ad hJ (show (0 : Int) ≤ h ∧ h ≤ 8 by omega) 2) ⟨by decide, by decide⟩ rfl (Nat.le_of_ble_eq_true rfl) ⟨Nat.zero_le _, Nat.zero_le _⟩ (fun r36 hp37 => ?_)
    rcases hp37 with ⟨rfl, hp37⟩ | ⟨rfl, hp37⟩
    · refine b_if_ne C 132 dX9_fits_121 (by decide) (show (1 : Int32).toInt = 1 by decide) (fun c39 => ?_) (fun c39 => absurd c39 (by decide))
      refine v_iconst (v := 1) C dX9_fits_132 (by decide) ?_
      refine v_goto C 137 dX9_fits_133 (by decide) ?_
      exact v_ret C dX9_fits_137 rfl rfl (Or.inl ⟨rfl, ⟨by omega, by omega⟩, hJ.toB (by decide) (by omega) (by omega)⟩)
    · refine b_if_ne C 132 dX9_fits_121 (by decide) (show (0 : Int32).toInt = 0 by decide) (fun c40 => absurd c40 (by decide)) (fun c40 => ?_)
      refine v_aload_n C 0 dX9_fits_124 rfl rfl ?_
      refine v_iconst (v := 1) C dX9_fits_125 (by decide) ?_
      refine v_cVp C dX9_fits_126 lX9_213 mX9_isTop 68 (by omega) hM38.2.2.1 (by decide) rfl (t_X9_isTop l G ad hJ (show (0 : Int) ≤ h ∧ h ≤ 8 by omega) 1) ⟨by decide, by decide⟩ rfl (Nat.le_of_ble_eq_true rfl) ⟨Nat.zero_le _, Nat.zero_le _⟩ (fun r41 hp42 => ?_)
      rcases hp42 with ⟨rfl, hp42⟩ | ⟨rfl, hp42⟩
      · refine b_if_eq C 136 dX9_fits_129 (by decide) (show (1 : Int32).toInt = 1 by decide) (fun c43 => absurd c43 (by decide)) (fun c43 => ?_)
        refine v_iconst (v := 1) C dX9_fits_132 (by decide) ?_
        refine v_goto C 137 dX9_fits_133 (by decide) ?_
        exact v_ret C dX9_fits_137 rfl rfl (Or.inl ⟨rfl, ⟨by omega, by omega⟩, hJ.toB (by decide) (by omega) (by omega)⟩)
      · refine b_if_eq C 136 dX9_fits_129 (by decide) (show (0 : Int32).toInt = 0 by decide) (fun c44 => ?_) (fun c44 => absurd c44 (by decide))
        refine v_iconst (v := 0) C dX9_fits_136 (by decide) ?_
        exact v_ret C dX9_fits_137 rfl rfl (Or.inr ⟨rfl, hJ.toB (by decide) (by omega) (by omega)⟩)
  · refine v_tableIn (off := 137) C 138 dX9_fits_1 (by omega) (by omega) (by rw [q1v, q1]; rfl) (by decide) ?_
    have hnn := ned_1 (x := x.toInt) (by omega)
    have hdd := dlt_0 (x := x.toInt) (by omega)
    refine v_aload_n C 0 dX9_fits_138 rfl rfl ?_
    refine v_iconst (v := 2) C dX9_fits_139 (by decide) ?_
    obtain ⟨im47, hM47, hb47⟩ := hJ.1
    have hq47 := hM47.b
    refine v_cVp C dX9_fits_140 lX9_213 mX9_isTop 68 (by omega) hM47.2.2.1 (by decide) rfl (t_X9_isTop l G ad hJ (show (0 : Int) ≤ h ∧ h ≤ 8 by omega) 2) ⟨by decide, by decide⟩ rfl (Nat.le_of_ble_eq_true rfl) ⟨Nat.zero_le _, Nat.zero_le _⟩ (fun r45 hp46 => ?_)
    rcases hp46 with ⟨rfl, hp46⟩ | ⟨rfl, hp46⟩
    · exact v_ret C dX9_fits_143 rfl rfl (Or.inl ⟨rfl, ⟨by omega, by omega⟩, hJ.toB (by decide) (by omega) (by omega)⟩)
    · exact v_ret C dX9_fits_143 rfl rfl (Or.inr ⟨rfl, hJ.toB (by decide) (by omega) (by omega)⟩)
  · refine v_tableIn (off := 143) C 144 dX9_fits_1 (by omega) (by omega) (by rw [q1v, q1]; rfl) (by decide) ?_
    have hnn := ned_2 (x := x.toInt) (by omega)
    have hdd := dlt_m (x := x.toInt) (by omega)
    refine v_aload_n C 0 dX9_fits_144 rfl rfl ?_
    obtain ⟨im48, hM48, hb48⟩ := hJ.1
    have hq48 := hM48.b
    refine v_geti (v := im48 35) C 68 dX9_fits_145 fX9_203 (by omega) hM48.2.2.1 rfl rfl ?_
    have him48_35 : (h : Int) ≤ (im48 35).toInt ∧ (im48 35).toInt ≤ h := hb48 35
    refine v_iconst (v := 2) C dX9_fits_148 (by decide) ?_
    refine b_icmp_lt C 185 dX9_fits_149 (by decide) (rfl : Int32.toInt (im48 35) = _) (show (2 : Int32).toInt = 2 by decide) (fun c49 => ?_) (fun c49 => ?_)
    · refine v_iconst (v := 0) C dX9_fits_185 (by decide) ?_
      exact v_ret C dX9_fits_186 rfl rfl (Or.inr ⟨rfl, hJ.toB (by decide) (by omega) (by omega)⟩)
    · refine v_aload_n C 0 dX9_fits_152 rfl rfl ?_
      refine v_getr C 68 dX9_fits_153 fX9_97 (by omega) hM48.2.2.1 rfl rfl ?_
      refine v_aload_n C 0 dX9_fits_156 rfl rfl ?_
      refine v_geti (v := im48 35) C 68 dX9_fits_157 fX9_203 (by omega) hM48.2.2.1 rfl rfl ?_
      refine v_iconst (v := 1) C dX9_fits_160 (by decide) ?_
      refine v_isub C dX9_fits_161 ?_
      refine v_top (fun x50 ex50 => ?_)
      have hx50 : x50.toInt = ((im48 35).toInt - 1) := by rw [ex50]; exact ti_sub (rfl : Int32.toInt (im48 35) = _) (show (1 : Int32).toInt = 1 by decide) (by omega) (by omega)
      obtain ⟨f52, hE52, hb52⟩ := hJ.2.1.getA (b := 92) (by omega) rfl
      refine v_ald (v := f52 (((im48 35).toInt - 1)).toNat) C 92 dX9_fits_162 (by omega) hE52 (ti_in hx50 (by omega) (by omega)) (by rw [ti_cl hx50]) ?_
      refine v_top (fun x53 _ => ?_)
      refine v_aload_n C 0 dX9_fits_163 rfl rfl ?_
      refine v_getr C 68 dX9_fits_164 fX9_97 (by omega) hM48.2.2.1 rfl rfl ?_
      refine v_aload_n C 0 dX9_fits_167 rfl rfl ?_
      refine v_geti (v := im48 35) C 68 dX9_fits_168 fX9_203 (by omega) hM48.2.2.1 rfl rfl ?_
      refine v_iconst (v := 2) C dX9_fits_171 (by decide) ?_
      refine v_isub C dX9_fits_172 ?_
      refine v_top (fun x54 ex54 => ?_)
      have hx54 : x54.toInt = ((im48 35).toInt - 2) := by rw [ex54]; exact ti_sub (rfl : Int32.toInt (im48 35) = _) (show (2 : Int32).toInt = 2 by decide) (by omega) (by omega)
      refine v_ald (v := f52 (((im48 35).toInt - 2)).toNat) C 92 dX9_fits_173 (by omega) hE52 (ti_in hx54 (by omega) (by omega)) (by rw [ti_cl hx54]) ?_
      refine v_top (fun x55 _ => ?_)
      refine b_icmp_ne C 185 dX9_fits_174 (by decide) (rfl : Int32.toInt x53 = _) (rfl : Int32.toInt x55 = _) (fun c56 => ?_) (fun c56 => ?_)
      · refine v_iconst (v := 0) C dX9_fits_185 (by decide) ?_
        exact v_ret C dX9_fits_186 rfl rfl (Or.inr ⟨rfl, hJ.toB (by decide) (by omega) (by omega)⟩)
      · refine v_aload_n C 0 dX9_fits_177 rfl rfl ?_
        refine v_iconst (v := 3) C dX9_fits_178 (by decide) ?_
        refine v_cVp C dX9_fits_179 lX9_213 mX9_isTop 68 (by omega) hM48.2.2.1 (by decide) rfl (t_X9_isTop l G ad hJ (show (0 : Int) ≤ h ∧ h ≤ 8 by omega) 3) ⟨by decide, by decide⟩ rfl (Nat.le_of_ble_eq_true rfl) ⟨Nat.zero_le _, Nat.zero_le _⟩ (fun r57 hp58 => ?_)
        rcases hp58 with ⟨rfl, hp58⟩ | ⟨rfl, hp58⟩
        · refine b_if_eq C 187 dX9_fits_182 (by decide) (show (1 : Int32).toInt = 1 by decide) (fun c59 => absurd c59 (by decide)) (fun c59 => ?_)
          refine v_iconst (v := 0) C dX9_fits_185 (by decide) ?_
          exact v_ret C dX9_fits_186 rfl rfl (Or.inr ⟨rfl, hJ.toB (by decide) (by omega) (by omega)⟩)
        · refine b_if_eq C 187 dX9_fits_182 (by decide) (show (0 : Int32).toInt = 0 by decide) (fun c60 => ?_) (fun c60 => absurd c60 (by decide))
          refine v_aload_n C 0 dX9_fits_187 rfl rfl ?_
          refine v_dup C dX9_fits_188 rfl ?_
          refine v_geti (v := im48 35) C 68 dX9_fits_189 fX9_203 (by omega) hM48.2.2.1 rfl rfl ?_
          refine v_iconst (v := 1) C dX9_fits_192 (by decide) ?_
          refine v_isub C dX9_fits_193 ?_
          refine v_top (fun x61 ex61 => ?_)
          have hx61 : x61.toInt = ((im48 35).toInt - 1) := by rw [ex61]; exact ti_sub (rfl : Int32.toInt (im48 35) = _) (show (1 : Int32).toInt = 1 by decide) (by omega) (by omega)
          refine v_puti C 68 dX9_fits_194 fX9_203 (by omega) hM48.2.2.1 rfl rfl rfl rfl (fun E62 hE62_68 oE62 => ?_)
          have hE62_92 := (oE62 92 (by decide)).trans hE52
          obtain ⟨hJ63, hM64, hb65⟩ := hJ.putB hM48 hb48 (k := 35) (v := x61) (by decide) (by unfold PR; omega) hE62_68 oE62
          refine v_aload_n C 0 dX9_fits_197 rfl rfl ?_
          refine v_getr C 68 dX9_fits_198 fX9_97 (by omega) hE62_68 rfl rfl ?_
          refine v_aload_n C 0 dX9_fits_201 rfl rfl ?_
          refine v_geti (v := x61) C 68 dX9_fits_202 fX9_203 (by omega) hE62_68 rfl rfl ?_
          refine v_iconst (v := 1) C dX9_fits_205 (by decide) ?_
          refine v_isub C dX9_fits_206 ?_
          refine v_top (fun x66 ex66 => ?_)
          have hx66 : x66.toInt = (((im48 35).toInt - 1) - 1) := by rw [ex66]; exact ti_sub hx61 (show (1 : Int32).toInt = 1 by decide) (by omega) (by omega)
          refine v_iconst (v := 3) C dX9_fits_207 (by decide) ?_
          refine v_ast C 92 dX9_fits_208 (by omega) hE62_92 (ti_in hx66 (by omega) (by omega)) (fun E67 hE67_92 oE67 => ?_)
          rw [ti_cl hx66] at hE67_92
          have hE67_68 := (oE67 68 (by decide)).trans hE62_68
          have hJ68 := hJ63.with (hJ63.2.1.setA rfl (by unfold PR; omega) hb52 (ti_any 3) hE67_92 oE67) (oE67 68 (by decide)) (oE67 69 (by decide)) (oE67 70 (by decide))
          have hM69 := hM64.of (oE67 68 (by decide)) (oE67 69 (by decide)) (oE67 70 (by decide))
          refine v_iconst (v := 1) C dX9_fits_209 (by decide) ?_
          exact v_ret C dX9_fits_210 rfl rfl (Or.inl ⟨rfl, ⟨by omega, by omega⟩, hJ68.toB (by decide) (by omega) (by omega)⟩)
  · refine v_tableIn (off := 210) C 211 dX9_fits_1 (by omega) (by omega) (by rw [q1v, q1]; rfl) (by decide) ?_
    have hnn := ned_2 (x := x.toInt) (by omega)
    have hdd := dlt_m (x := x.toInt) (by omega)
    refine v_aload_n C 0 dX9_fits_211 rfl rfl ?_
    obtain ⟨im70, hM70, hb70⟩ := hJ.1
    have hq70 := hM70.b
    refine v_geti (v := im70 35) C 68 dX9_fits_212 fX9_203 (by omega) hM70.2.2.1 rfl rfl ?_
    have him70_35 : (h : Int) ≤ (im70 35).toInt ∧ (im70 35).toInt ≤ h := hb70 35
    refine v_iconst (v := 2) C dX9_fits_215 (by decide) ?_
    refine b_icmp_lt C 256 dX9_fits_216 (by decide) (rfl : Int32.toInt (im70 35) = _) (show (2 : Int32).toInt = 2 by decide) (fun c71 => ?_) (fun c71 => ?_)
    · refine v_iconst (v := 0) C dX9_fits_256 (by decide) ?_
      exact v_ret C dX9_fits_257 rfl rfl (Or.inr ⟨rfl, hJ.toB (by decide) (by omega) (by omega)⟩)
    · refine v_aload_n C 0 dX9_fits_219 rfl rfl ?_
      refine v_iconst (v := 3) C dX9_fits_220 (by decide) ?_
      refine v_cVp C dX9_fits_221 lX9_213 mX9_isTop 68 (by omega) hM70.2.2.1 (by decide) rfl (t_X9_isTop l G ad hJ (show (0 : Int) ≤ h ∧ h ≤ 8 by omega) 3) ⟨by decide, by decide⟩ rfl (Nat.le_of_ble_eq_true rfl) ⟨Nat.zero_le _, Nat.zero_le _⟩ (fun r72 hp73 => ?_)
      rcases hp73 with ⟨rfl, hp73⟩ | ⟨rfl, hp73⟩
      · refine b_if_eq C 256 dX9_fits_224 (by decide) (show (1 : Int32).toInt = 1 by decide) (fun c74 => absurd c74 (by decide)) (fun c74 => ?_)
        refine v_aload_n C 0 dX9_fits_227 rfl rfl ?_
        refine v_getr C 68 dX9_fits_228 fX9_97 (by omega) hM70.2.2.1 rfl rfl ?_
        refine v_aload_n C 0 dX9_fits_231 rfl rfl ?_
        refine v_geti (v := im70 35) C 68 dX9_fits_232 fX9_203 (by omega) hM70.2.2.1 rfl rfl ?_
        refine v_iconst (v := 2) C dX9_fits_235 (by decide) ?_
        refine v_isub C dX9_fits_236 ?_
        refine v_top (fun x75 ex75 => ?_)
        have hx75 : x75.toInt = ((im70 35).toInt - 2) := by rw [ex75]; exact ti_sub (rfl : Int32.toInt (im70 35) = _) (show (2 : Int32).toInt = 2 by decide) (by omega) (by omega)
        obtain ⟨f77, hE77, hb77⟩ := hJ.2.1.getA (b := 92) (by omega) rfl
        refine v_ald (v := f77 (((im70 35).toInt - 2)).toNat) C 92 dX9_fits_237 (by omega) hE77 (ti_in hx75 (by omega) (by omega)) (by rw [ti_cl hx75]) ?_
        refine v_top (fun x78 _ => ?_)
        refine b_if_eq C 258 dX9_fits_238 (by decide) (rfl : Int32.toInt x78 = _) (fun c79 => ?_) (fun c79 => ?_)
        · refine v_aload_n C 0 dX9_fits_258 rfl rfl ?_
          refine v_dup C dX9_fits_259 rfl ?_
          refine v_geti (v := im70 35) C 68 dX9_fits_260 fX9_203 (by omega) hM70.2.2.1 rfl rfl ?_
          refine v_iconst (v := 1) C dX9_fits_263 (by decide) ?_
          refine v_isub C dX9_fits_264 ?_
          refine v_top (fun x80 ex80 => ?_)
          have hx80 : x80.toInt = ((im70 35).toInt - 1) := by rw [ex80]; exact ti_sub (rfl : Int32.toInt (im70 35) = _) (show (1 : Int32).toInt = 1 by decide) (by omega) (by omega)
          refine v_puti C 68 dX9_fits_265 fX9_203 (by omega) hM70.2.2.1 rfl rfl rfl rfl (fun E81 hE81_68 oE81 => ?_)
          have hE81_92 := (oE81 92 (by decide)).trans hE77
          obtain ⟨hJ82, hM83, hb84⟩ := hJ.putB hM70 hb70 (k := 35) (v := x80) (by decide) (by unfold PR; omega) hE81_68 oE81
          refine v_iconst (v := 1) C dX9_fits_268 (by decide) ?_
          exact v_ret C dX9_fits_269 rfl rfl (Or.inl ⟨rfl, ⟨by omega, by omega⟩, hJ82.toB (by decide) (by omega) (by omega)⟩)
        · refine v_aload_n C 0 dX9_fits_241 rfl rfl ?_
          refine v_getr C 68 dX9_fits_242 fX9_97 (by omega) hM70.2.2.1 rfl rfl ?_
          refine v_aload_n C 0 dX9_fits_245 rfl rfl ?_
          refine v_geti (v := im70 35) C 68 dX9_fits_246 fX9_203 (by omega) hM70.2.2.1 rfl rfl ?_
          refine v_iconst (v := 2) C dX9_fits_249 (by decide) ?_
          refine v_isub C dX9_fits_250 ?_
          refine v_top (fun x85 ex85 => ?_)
          have hx85 : x85.toInt = ((im70 35).toInt - 2) := by rw [ex85]; exact ti_sub (rfl : Int32.toInt (im70 35) = _) (show (2 : Int32).toInt = 2 by decide) (by omega) (by omega)
          refine v_ald (v := f77 (((im70 35).toInt - 2)).toNat) C 92 dX9_fits_251 (by omega) hE77 (ti_in hx85 (by omega) (by omega)) (by rw [ti_cl hx85]) ?_
          refine v_top (fun x86 _ => ?_)
          refine v_iconst (v := 1) C dX9_fits_252 (by decide) ?_
          refine b_icmp_eq C 258 dX9_fits_253 (by decide) (rfl : Int32.toInt x86 = _) (show (1 : Int32).toInt = 1 by decide) (fun c87 => ?_) (fun c87 => ?_)
          · refine v_aload_n C 0 dX9_fits_258 rfl rfl ?_
            refine v_dup C dX9_fits_259 rfl ?_
            refine v_geti (v := im70 35) C 68 dX9_fits_260 fX9_203 (by omega) hM70.2.2.1 rfl rfl ?_
            refine v_iconst (v := 1) C dX9_fits_263 (by decide) ?_
            refine v_isub C dX9_fits_264 ?_
            refine v_top (fun x88 ex88 => ?_)
            have hx88 : x88.toInt = ((im70 35).toInt - 1) := by rw [ex88]; exact ti_sub (rfl : Int32.toInt (im70 35) = _) (show (1 : Int32).toInt = 1 by decide) (by omega) (by omega)
            refine v_puti C 68 dX9_fits_265 fX9_203 (by omega) hM70.2.2.1 rfl rfl rfl rfl (fun E89 hE89_68 oE89 => ?_)
            have hE89_92 := (oE89 92 (by decide)).trans hE77
            obtain ⟨hJ90, hM91, hb92⟩ := hJ.putB hM70 hb70 (k := 35) (v := x88) (by decide) (by unfold PR; omega) hE89_68 oE89
            refine v_iconst (v := 1) C dX9_fits_268 (by decide) ?_
            exact v_ret C dX9_fits_269 rfl rfl (Or.inl ⟨rfl, ⟨by omega, by omega⟩, hJ90.toB (by decide) (by omega) (by omega)⟩)
          · refine v_iconst (v := 0) C dX9_fits_256 (by decide) ?_
            exact v_ret C dX9_fits_257 rfl rfl (Or.inr ⟨rfl, hJ.toB (by decide) (by omega) (by omega)⟩)
      · refine b_if_eq C 256 dX9_fits_224 (by decide) (show (0 : Int32).toInt = 0 by decide) (fun c93 => ?_) (fun c93 => absurd c93 (by decide))
        refine v_iconst (v := 0) C dX9_fits_256 (by decide) ?_
        exact v_ret C dX9_fits_257 rfl rfl (Or.inr ⟨rfl, hJ.toB (by decide) (by omega) (by omega)⟩)
  · refine v_tableIn (off := 269) C 270 dX9_fits_1 (by omega) (by omega) (by rw [q1v, q1]; rfl) (by decide) ?_
    have hnn := ned_1 (x := x.toInt) (by omega)
    have hdd := dlt_1 (x := x.toInt) (by omega)
    refine v_aload_n C 0 dX9_fits_270 rfl rfl ?_
    obtain ⟨im94, hM94, hb94⟩ := hJ.1
    have hq94 := hM94.b
    refine v_geti (v := im94 35) C 68 dX9_fits_271 fX9_203 (by omega) hM94.2.2.1 rfl rfl ?_
    have him94_35 : (h : Int) ≤ (im94 35).toInt ∧ (im94 35).toInt ≤ h := hb94 35
    refine b_if_le C 299 dX9_fits_274 (by decide) (rfl : Int32.toInt (im94 35) = _) (fun c95 => ?_) (fun c95 => ?_)
    · refine v_iconst (v := 0) C dX9_fits_299 (by decide) ?_
      exact v_ret C dX9_fits_300 rfl rfl (Or.inr ⟨rfl, hJ.toB (by decide) (by omega) (by omega)⟩)
    · refine v_aload_n C 0 dX9_fits_277 rfl rfl ?_
      refine v_aload_n C 0 dX9_fits_278 rfl rfl ?_
      refine v_getr C 68 dX9_fits_279 fX9_97 (by omega) hM94.2.2.1 rfl rfl ?_
      refine v_aload_n C 0 dX9_fits_282 rfl rfl ?_
      refine v_geti (v := im94 35) C 68 dX9_fits_283 fX9_203 (by omega) hM94.2.2.1 rfl rfl ?_
      refine v_iconst (v := 1) C dX9_fits_286 (by decide) ?_
      refine v_isub C dX9_fits_287 ?_
      refine v_top (fun x96 ex96 => ?_)
      have hx96 : x96.toInt = ((im94 35).toInt - 1) := by rw [ex96]; exact ti_sub (rfl : Int32.toInt (im94 35) = _) (show (1 : Int32).toInt = 1 by decide) (by omega) (by omega)
      obtain ⟨f98, hE98, hb98⟩ := hJ.2.1.getA (b := 92) (by omega) rfl
      refine v_ald (v := f98 (((im94 35).toInt - 1)).toNat) C 92 dX9_fits_288 (by omega) hE98 (ti_in hx96 (by omega) (by omega)) (by rw [ti_cl hx96]) ?_
      refine v_top (fun x99 _ => ?_)
      refine v_cVi C dX9_fits_289 lX9_206 mX9_laid 68 (by omega) hM94.2.2.1 (by decide) rfl (t_X9_laid l G ad hJ (show (0 : Int) ≤ h ∧ h ≤ 8 by omega) x99) ⟨by decide, by decide⟩ rfl (Nat.le_of_ble_eq_true rfl) ⟨Nat.zero_le _, Nat.zero_le _⟩ (fun r100 E101 hp102 => ?_)
      rcases hp102 with ⟨rfl, hp102, hJ103⟩ | ⟨rfl, hJ103⟩
      · refine b_if_eq C 299 dX9_fits_292 (by decide) (show (1 : Int32).toInt = 1 by decide) (fun c104 => absurd c104 (by decide)) (fun c104 => ?_)
        refine v_iconst (v := 1) C dX9_fits_295 (by decide) ?_
        refine v_goto C 300 dX9_fits_296 (by decide) ?_
        exact v_ret C dX9_fits_300 rfl rfl (Or.inl ⟨rfl, ⟨by omega, by omega⟩, hJ103.toB (by decide) (by omega) (by omega)⟩)
      · refine b_if_eq C 299 dX9_fits_292 (by decide) (show (0 : Int32).toInt = 0 by decide) (fun c105 => ?_) (fun c105 => absurd c105 (by decide))
        refine v_iconst (v := 0) C dX9_fits_299 (by decide) ?_
        exact v_ret C dX9_fits_300 rfl rfl (Or.inr ⟨rfl, hJ103.toB (by decide) (by omega) (by omega)⟩)
  · refine v_tableOut C 301 dX9_fits_1 (by omega) (by decide) ?_
    have hnn := ned_2 (x := x.toInt) (by omega)
    have hdd := dlt_0 (x := x.toInt) (by omega)
    refine v_aload_n C 0 dX9_fits_301 rfl rfl ?_
    obtain ⟨im106, hM106, hb106⟩ := hJ.1
    have hq106 := hM106.b
    refine v_geti (v := im106 35) C 68 dX9_fits_302 fX9_203 (by omega) hM106.2.2.1 rfl rfl ?_
    have him106_35 : (h : Int) ≤ (im106 35).toInt ∧ (im106 35).toInt ≤ h := hb106 35
    refine v_iconst (v := 2) C dX9_fits_305 (by decide) ?_
    refine b_icmp_ge C 311 dX9_fits_306 (by decide) (rfl : Int32.toInt (im106 35) = _) (show (2 : Int32).toInt = 2 by decide) (fun c107 => ?_) (fun c107 => ?_)
    · refine v_aload_n C 0 dX9_fits_311 rfl rfl ?_
      refine v_getr C 68 dX9_fits_312 fX9_97 (by omega) hM106.2.2.1 rfl rfl ?_
      refine v_aload_n C 0 dX9_fits_315 rfl rfl ?_
      refine v_geti (v := im106 35) C 68 dX9_fits_316 fX9_203 (by omega) hM106.2.2.1 rfl rfl ?_
      refine v_iconst (v := 1) C dX9_fits_319 (by decide) ?_
      refine v_isub C dX9_fits_320 ?_
      refine v_top (fun x108 ex108 => ?_)
      have hx108 : x108.toInt = ((im106 35).toInt - 1) := by rw [ex108]; exact ti_sub (rfl : Int32.toInt (im106 35) = _) (show (1 : Int32).toInt = 1 by decide) (by omega) (by omega)
      obtain ⟨f110, hE110, hb110⟩ := hJ.2.1.getA (b := 92) (by omega) rfl
      refine v_ald (v := f110 (((im106 35).toInt - 1)).toNat) C 92 dX9_fits_321 (by omega) hE110 (ti_in hx108 (by omega) (by omega)) (by rw [ti_cl hx108]) ?_
      refine v_top (fun x111 _ => ?_)
      refine v_istore_n (lv' := [(0, .ref (ad 68)), (1, .int x), (2, .int x111)]) C [1, 2, 0] dX9_fits_322 rfl (by decide) rfl ?_
      refine v_aload_n C 0 dX9_fits_323 rfl rfl ?_
      refine v_getr C 68 dX9_fits_324 fX9_97 (by omega) hM106.2.2.1 rfl rfl ?_
      refine v_aload_n C 0 dX9_fits_327 rfl rfl ?_
      refine v_geti (v := im106 35) C 68 dX9_fits_328 fX9_203 (by omega) hM106.2.2.1 rfl rfl ?_
      refine v_iconst (v := 1) C dX9_fits_331 (by decide) ?_
      refine v_isub C dX9_fits_332 ?_
      refine v_top (fun x112 ex112 => ?_)
      have hx112 : x112.toInt = ((im106 35).toInt - 1) := by rw [ex112]; exact ti_sub (rfl : Int32.toInt (im106 35) = _) (show (1 : Int32).toInt = 1 by decide) (by omega) (by omega)
      refine v_aload_n C 0 dX9_fits_333 rfl rfl ?_
      refine v_getr C 68 dX9_fits_334 fX9_97 (by omega) hM106.2.2.1 rfl rfl ?_
      refine v_aload_n C 0 dX9_fits_337 rfl rfl ?_
      refine v_geti (v := im106 35) C 68 dX9_fits_338 fX9_203 (by omega) hM106.2.2.1 rfl rfl ?_
      refine v_iconst (v := 2) C dX9_fits_341 (by decide) ?_
      refine v_isub C dX9_fits_342 ?_
      refine v_top (fun x113 ex113 => ?_)
      have hx113 : x113.toInt = ((im106 35).toInt - 2) := by rw [ex113]; exact ti_sub (rfl : Int32.toInt (im106 35) = _) (show (2 : Int32).toInt = 2 by decide) (by omega) (by omega)
      refine v_ald (v := f110 (((im106 35).toInt - 2)).toNat) C 92 dX9_fits_343 (by omega) hE110 (ti_in hx113 (by omega) (by omega)) (by rw [ti_cl hx113]) ?_
      refine v_top (fun x114 _ => ?_)
      refine v_ast C 92 dX9_fits_344 (by omega) hE110 (ti_in hx112 (by omega) (by omega)) (fun E115 hE115_92 oE115 => ?_)
      rw [ti_cl hx112] at hE115_92
      have hE115_68 := (oE115 68 (by decide)).trans hM106.2.2.1
      have hJ116 := hJ.with (hJ.2.1.setA rfl (by unfold PR; omega) hb110 (ti_any x114) hE115_92 oE115) (oE115 68 (by decide)) (oE115 69 (by decide)) (oE115 70 (by decide))
      have hM117 := hM106.of (oE115 68 (by decide)) (oE115 69 (by decide)) (oE115 70 (by decide))
      refine v_aload_n C 0 dX9_fits_345 rfl rfl ?_
      refine v_getr C 68 dX9_fits_346 fX9_97 (by omega) hM117.2.2.1 rfl rfl ?_
      refine v_aload_n C 0 dX9_fits_349 rfl rfl ?_
      refine v_geti (v := im106 35) C 68 dX9_fits_350 fX9_203 (by omega) hM117.2.2.1 rfl rfl ?_
      refine v_iconst (v := 2) C dX9_fits_353 (by decide) ?_
      refine v_isub C dX9_fits_354 ?_
      refine v_top (fun x118 ex118 => ?_)
      have hx118 : x118.toInt = ((im106 35).toInt - 2) := by rw [ex118]; exact ti_sub (rfl : Int32.toInt (im106 35) = _) (show (2 : Int32).toInt = 2 by decide) (by omega) (by omega)
      refine v_iload_n C 2 dX9_fits_355 rfl rfl ?_
      obtain ⟨f120, hE120, hb120⟩ := hJ116.2.1.getA (b := 92) (by omega) rfl
      refine v_ast C 92 dX9_fits_356 (by omega) hE120 (ti_in hx118 (by omega) (by omega)) (fun E121 hE121_92 oE121 => ?_)
      rw [ti_cl hx118] at hE121_92
      have hE121_68 := (oE121 68 (by decide)).trans hM117.2.2.1
      have hJ122 := hJ116.with (hJ116.2.1.setA rfl (by unfold PR; omega) hb120 (ti_any x111) hE121_92 oE121) (oE121 68 (by decide)) (oE121 69 (by decide)) (oE121 70 (by decide))
      have hM123 := hM117.of (oE121 68 (by decide)) (oE121 69 (by decide)) (oE121 70 (by decide))
      refine v_iconst (v := 1) C dX9_fits_357 (by decide) ?_
      exact v_ret C dX9_fits_358 rfl rfl (Or.inl ⟨rfl, ⟨by omega, by omega⟩, hJ122.toB (by decide) (by omega) (by omega)⟩)
    · refine v_iconst (v := 0) C dX9_fits_309 (by decide) ?_
      exact v_ret C dX9_fits_310 rfl rfl (Or.inr ⟨rfl, hJ.toB (by decide) (by omega) (by omega)⟩)

set_option maxRecDepth 20000 in
theorem t_X9_mixOf (l : Launch) (G : Gl) (ad : Nat → Nat) {n : Nat} {ic md : Nat → Int32} {bd : Nat → Int × Int} {E0 E : Nat → va_E} (hJ : JM G ad n ic md bd PR E0 E) {fo : Nat → Int32} {m : Nat} (hfo : E0 89 = aI G 10 fo) (hm : m ≤ 10) (hf32 : (m : Int) ≤ (bd 32).1 ∧ (bd 32).2 ≤ (m : Int)) : CtI l G yX9_mixOf cX9_mixOf 2 .int 3 65 (n) ad E [.ref (ad 68)] (fun r E' => (r.toInt = -6 ∧ okH fo m ∧ JM G ad n ic md (upB bd 35 (0, 8)) PR E0 E') ∨ (r.toInt ≠ -6 ∧ JM G ad n ic md (upB bd 35 (0, 8)) PR E0 E')) := by
  refine CtI.of (by decide) (Nat.le_of_ble_eq_true rfl) (fun X A C => ?_)
  refine v_sub (lv' := [(0, .ref (ad 68))]) [0] rfl ?_
  have hn := hJ.hn
  have hz16 := hJ.2.2.2.2
  have hg0 : hgt fo (Int32.toInt 0).toNat = 0 := by rw [show (Int32.toInt 0).toNat = 0 by decide]; rfl
  refine v_aload_n C 0 dX9_mixOf_0 rfl rfl ?_
  refine v_iconst (v := 0) C dX9_mixOf_1 (by decide) ?_
  obtain ⟨im1, hM1, hb1⟩ := hJ.1
  have hq1 := hM1.b
  refine v_puti C 68 dX9_mixOf_2 fX9_203 (by omega) hM1.2.2.1 rfl rfl rfl rfl (fun E2 hE2_68 oE2 => ?_)
  obtain ⟨hJ3, hM4, hb5⟩ := hJ.putN hM1 hb1 (k := 35) (v := (0 : Int32)) (by decide) (by unfold PR; omega) hE2_68 oE2
  have hlhJ3 : (0 : Int32).toInt = 0 := by decide
  refine v_iconst (v := 0) C dX9_mixOf_5 (by decide) ?_
  refine v_istore_n (lv' := [(0, .ref (ad 68)), (1, .int 0)]) C [1, 0] dX9_mixOf_6 rfl (by decide) rfl ?_
  have LP6 : ∀ (t : Nat) (E11 : Nat → va_E) (y7 : Int32), JM G ad n ic md (upB bd 35 (hgt fo (y7.toInt).toNat, hgt fo (y7.toInt).toNat)) PR E0 E11 → ((0 : Int) ≤ y7.toInt ∧ y7.toInt ≤ 10) → (y7.toInt ≤ (m : Int)) → (okH fo (y7.toInt).toNat) → ((0 : Int) ≤ hgt fo (y7.toInt).toNat ∧ hgt fo (y7.toInt).toNat ≤ 8) → 11 - y7.toInt < (t : Int) → V X G A 2 (QI X G A (n) ad (fun r E' => (r.toInt = -6 ∧ okH fo m ∧ JM G ad n ic md (upB bd 35 (0, 8)) PR E0 E') ∨ (r.toInt ≠ -6 ∧ JM G ad n ic md (upB bd 35 (0, 8)) PR E0 E'))) n ad 0 0 E11 7 [(0, .ref (ad 68)), (1, .int y7)] [] := by
    intro t15
    induction t15 with
    | zero => intro E11 y7 hJ12 hy7 hq8 hq9 hq10 hm14; exfalso; omega
    | succ t15 ih13 =>
      intro E11 y7 hJ12 hy7 hq8 hq9 hq10 hm14
      refine v_iload_n C 1 dX9_mixOf_7 rfl rfl ?_
      refine v_aload_n C 0 dX9_mixOf_8 rfl rfl ?_
      obtain ⟨im16, hM16, hb16⟩ := hJ12.1
      have hq16 := hM16.b
      refine v_geti (v := im16 32) C 68 dX9_mixOf_9 fX9_200 (by omega) hM16.2.2.1 rfl rfl ?_
      have him16_32r : (bd 32).1 ≤ (im16 32).toInt ∧ (im16 32).toInt ≤ (bd 32).2 := hb16 32
      have him16_32 : (m : Int) ≤ (im16 32).toInt ∧ (im16 32).toInt ≤ (m : Int) := by omega
      refine b_icmp_ge C 36 dX9_mixOf_12 (by decide) (rfl : Int32.toInt y7 = _) (rfl : Int32.toInt (im16 32) = _) (fun c17 => ?_) (fun c17 => ?_)
      · refine v_aload_n C 0 dX9_mixOf_36 rfl rfl ?_
        refine v_geti (v := im16 35) C 68 dX9_mixOf_37 fX9_203 (by omega) hM16.2.2.1 rfl rfl ?_
        have him16_35 : (hgt fo (y7.toInt).toNat : Int) ≤ (im16 35).toInt ∧ (im16 35).toInt ≤ hgt fo (y7.toInt).toNat := hb16 35
        refine v_iconst (v := 1) C dX9_mixOf_40 (by decide) ?_
        refine b_icmp_ne C 49 dX9_mixOf_41 (by decide) (rfl : Int32.toInt (im16 35) = _) (show (1 : Int32).toInt = 1 by decide) (fun c18 => ?_) (fun c18 => ?_)
        · refine v_aload_n C 0 dX9_mixOf_49 rfl rfl ?_
          refine v_geti (v := im16 32) C 68 dX9_mixOf_50 fX9_200 (by omega) hM16.2.2.1 rfl rfl ?_
          exact v_ret C dX9_mixOf_53 rfl rfl (Or.inr ⟨(by omega), hJ12.toB (by decide) (by omega) (by omega)⟩)
        · refine v_bipush (v := (-6)) C dX9_mixOf_44 (by decide) ?_
          refine v_goto C 53 dX9_mixOf_46 (by decide) ?_
          exact v_ret C dX9_mixOf_53 rfl rfl (Or.inl ⟨by decide, (by have q := hq9; rw [show (y7.toInt).toNat = m by omega] at q; exact q), hJ12.toB (by decide) (by omega) (by omega)⟩)
      · refine v_aload_n C 0 dX9_mixOf_15 rfl rfl ?_
        refine v_aload_n C 0 dX9_mixOf_16 rfl rfl ?_
        refine v_getr C 68 dX9_mixOf_17 fX9_88 (by omega) hM16.2.2.1 rfl rfl ?_
        refine v_iload_n C 1 dX9_mixOf_20 rfl rfl ?_
        have hE19 := (hJ12.2.1.1 89 (by unfold PR; omega)).trans hfo
        refine v_ald (v := fo (y7.toInt).toNat) C 89 dX9_mixOf_21 (by omega) hE19 (ti_in (rfl : Int32.toInt y7 = _) (by omega) (by omega)) (by rw [ti_cl (rfl : Int32.toInt y7 = _)]) ?_
        refine v_cVi C dX9_mixOf_22 lX9_216 mX9_fits 68 (by omega) hM16.2.2.1 (by decide) rfl (t_X9_fits l G ad hJ12 (show (0 : Int) ≤ hgt fo (y7.toInt).toNat ∧ hgt fo (y7.toInt).toNat ≤ 8 by omega) (fo (y7.toInt).toNat)) ⟨by decide, by decide⟩ rfl (Nat.le_of_ble_eq_true rfl) ⟨Nat.zero_le _, Nat.zero_le _⟩ (fun r20 E21 hp22 => ?_)
        rcases hp22 with ⟨rfl, hp22, hJ23⟩ | ⟨rfl, hJ23⟩
        · refine b_if_ne C 30 dX9_mixOf_25 (by decide) (show (1 : Int32).toInt = 1 by decide) (fun c24 => ?_) (fun c24 => absurd c24 (by decide))
          obtain ⟨x25, ex25⟩ : ∃ y : Int32, y = y7 + 1 := ⟨_, rfl⟩
          have hx25 : x25.toInt = (y7.toInt + 1) := by rw [ex25]; exact ti_add (rfl : Int32.toInt y7 = _) (show (1 : Int32).toInt = 1 by decide) (by omega) (by omega)
          refine v_iinc (v := x25) (lv' := [(0, .ref (ad 68)), (1, .int x25)]) C 1 [1, 0] dX9_mixOf_30 rfl (ex25.symm) (by decide) rfl ?_
          have hS26 : hgt fo (x25.toInt).toNat = hgt fo (y7.toInt).toNat + dlt (fo (y7.toInt).toNat).toInt := by rw [show (x25.toInt).toNat = (y7.toInt).toNat + 1 by omega]; rfl
          have hS26b := dn_b (fo (y7.toInt).toNat).toInt
          refine v_goto C 7 dX9_mixOf_33 (by decide) ?_
          exact ih13 _ x25 (hJ23.toB (by decide) (by have := hx25; omega) (by have := hx25; omega)) (by have := hx25; omega) (by have := hx25; omega) (by rw [show (x25.toInt).toNat = (y7.toInt).toNat + 1 by omega]; exact okH_s hq9 hp22) (by have := hx25; omega) (by have := hx25; omega)
        · refine b_if_ne C 30 dX9_mixOf_25 (by decide) (show (0 : Int32).toInt = 0 by decide) (fun c27 => absurd c27 (by decide)) (fun c27 => ?_)
          refine v_iload_n C 1 dX9_mixOf_28 rfl rfl ?_
          exact v_ret C dX9_mixOf_29 rfl rfl (Or.inr ⟨(by omega), hJ23.toB (by decide) (by omega) (by omega)⟩)
  exact LP6 100000 _ 0 (hJ3.toB (by decide) (by have := (show (0 : Int32).toInt = 0 by decide); omega) (by have := (show (0 : Int32).toInt = 0 by decide); omega)) (by have := (show (0 : Int32).toInt = 0 by decide); omega) (by have := (show (0 : Int32).toInt = 0 by decide); omega) (by rw [show (Int32.toInt 0).toNat = 0 by decide]; exact okH_0 fo) (by have := (show (0 : Int32).toInt = 0 by decide); omega) (by have := (show (0 : Int32).toInt = 0 by decide); omega)

set_option maxRecDepth 20000 in
theorem t_X9_comesTo (l : Launch) (G : Gl) (ad : Nat → Nat) {n : Nat} {ic md : Nat → Int32} {bd : Nat → Int × Int} {E0 E : Nat → va_E} (hJ : JM G ad n ic md bd PR E0 E) (hf35 : (1 : Int) ≤ (bd 35).1 ∧ (bd 35).2 ≤ 8) (v : Int64) : CtI l G yX9_comesTo cX9_comesTo 5 .boolean 3 64 (n) ad E [.ref (ad 68), .long v] (fun r E' => (r = 0 ∨ r = 1) ∧ JM G ad n ic md bd PR E0 E') := by
  refine CtI.of (by decide) (Nat.le_of_ble_eq_true rfl) (fun X A C => ?_)
  refine v_sub (lv' := [(0, .ref (ad 68)), (1, .long v)]) [0, 1] rfl ?_
  have hn := hJ.hn
  have hz16 := hJ.2.2.2.2
  refine v_aload_n C 0 dX9_comesTo_0 rfl rfl ?_
  obtain ⟨im1, hM1, hb1⟩ := hJ.1
  have hq1 := hM1.b
  refine v_getr C 68 dX9_comesTo_1 fX9_97 (by omega) hM1.2.2.1 rfl rfl ?_
  refine v_aload_n C 0 dX9_comesTo_4 rfl rfl ?_
  refine v_geti (v := im1 35) C 68 dX9_comesTo_5 fX9_203 (by omega) hM1.2.2.1 rfl rfl ?_
  have him1_35r : (bd 35).1 ≤ (im1 35).toInt ∧ (im1 35).toInt ≤ (bd 35).2 := hb1 35
  have him1_35 : (1 : Int) ≤ (im1 35).toInt ∧ (im1 35).toInt ≤ 8 := by omega
  refine v_iconst (v := 1) C dX9_comesTo_8 (by decide) ?_
  refine v_isub C dX9_comesTo_9 ?_
  refine v_top (fun x2 ex2 => ?_)
  have hx2 : x2.toInt = ((im1 35).toInt - 1) := by rw [ex2]; exact ti_sub (rfl : Int32.toInt (im1 35) = _) (show (1 : Int32).toInt = 1 by decide) (by omega) (by omega)
  obtain ⟨f4, hE4, hb4⟩ := hJ.2.1.getA (b := 92) (by omega) rfl
  refine v_ald (v := f4 (((im1 35).toInt - 1)).toNat) C 92 dX9_comesTo_10 (by omega) hE4 (ti_in hx2 (by omega) (by omega)) (by rw [ti_cl hx2]) ?_
  refine v_top (fun x5 _ => ?_)
  refine v_istore_n (lv' := [(0, .ref (ad 68)), (1, .long v), (3, .int x5)]) C [1, 2, 0] dX9_comesTo_11 rfl (by decide) rfl ?_
  refine v_iload_n C 2 dX9_comesTo_12 rfl rfl ?_
  refine b_if_ne C 38 dX9_comesTo_13 (by decide) (rfl : Int32.toInt x5 = _) (fun c6 => ?_) (fun c6 => ?_)
  · refine v_iload_n C 2 dX9_comesTo_38 rfl rfl ?_
    refine v_iconst (v := 3) C dX9_comesTo_39 (by decide) ?_
    refine b_icmp_ne C 67 dX9_comesTo_40 (by decide) (rfl : Int32.toInt x5 = _) (show (3 : Int32).toInt = 3 by decide) (fun c7 => ?_) (fun c7 => ?_)
    · refine v_iload_n C 2 dX9_comesTo_67 rfl rfl ?_
      refine v_iconst (v := 2) C dX9_comesTo_68 (by decide) ?_
      refine b_icmp_ne C 96 dX9_comesTo_69 (by decide) (rfl : Int32.toInt x5 = _) (show (2 : Int32).toInt = 2 by decide) (fun c8 => ?_) (fun c8 => ?_)
      · refine v_lload_n C 1 dX9_comesTo_96 rfl rfl ?_
        refine v_lconst (v := 0) C dX9_comesTo_97 (by decide) ?_
        refine v_lcmp C dX9_comesTo_98 ?_
        refine v_top (fun x9 _ => ?_)
        refine b_if_lt C 120 dX9_comesTo_99 (by decide) (rfl : Int32.toInt x9 = _) (fun c10 => ?_) (fun c10 => ?_)
        · refine v_iconst (v := 0) C dX9_comesTo_120 (by decide) ?_
          refine v_istore (lv' := [(0, .ref (ad 68)), (1, .long v), (3, .int x5), (4, .int 0)]) C [1, 2, 3, 0] dX9_comesTo_121 (by decide) rfl ?_
          refine v_aload_n C 0 dX9_comesTo_123 rfl rfl ?_
          refine v_getr C 68 dX9_comesTo_124 fX9_100 (by omega) hM1.2.2.1 rfl rfl ?_
          refine v_aload_n C 0 dX9_comesTo_127 rfl rfl ?_
          refine v_geti (v := im1 35) C 68 dX9_comesTo_128 fX9_203 (by omega) hM1.2.2.1 rfl rfl ?_
          refine v_iconst (v := 1) C dX9_comesTo_131 (by decide) ?_
          refine v_isub C dX9_comesTo_132 ?_
          refine v_top (fun x11 ex11 => ?_)
          have hx11 : x11.toInt = ((im1 35).toInt - 1) := by rw [ex11]; exact ti_sub (rfl : Int32.toInt (im1 35) = _) (show (1 : Int32).toInt = 1 by decide) (by omega) (by omega)
          refine v_iload C 3 dX9_comesTo_133 rfl ?_
          refine b_if_eq C 143 dX9_comesTo_135 (by decide) (show (0 : Int32).toInt = 0 by decide) (fun c12 => ?_) (fun c12 => absurd c12 (by decide))
          refine v_iconst (v := 0) C dX9_comesTo_143 (by decide) ?_
          obtain ⟨f14, hE14, hb14⟩ := hJ.2.1.getA (b := 93) (by omega) rfl
          refine v_ast C 93 dX9_comesTo_144 (by omega) hE14 (ti_in hx11 (by omega) (by omega)) (fun E15 hE15_93 oE15 => ?_)
          rw [ti_cl hx11] at hE15_93
          have hE15_68 := (oE15 68 (by decide)).trans hM1.2.2.1
          have hE15_92 := (oE15 92 (by decide)).trans hE4
          have hJ16 := hJ.with (hJ.2.1.setA rfl (by unfold PR; omega) hb14 (ti_any 0) hE15_93 oE15) (oE15 68 (by decide)) (oE15 69 (by decide)) (oE15 70 (by decide))
          have hM17 := hM1.of (oE15 68 (by decide)) (oE15 69 (by decide)) (oE15 70 (by decide))
          refine v_iload C 3 dX9_comesTo_145 rfl ?_
          exact v_ret C dX9_comesTo_147 rfl rfl ⟨Or.inl rfl, hJ16⟩
        · refine v_lload_n C 1 dX9_comesTo_102 rfl rfl ?_
          refine v_ldc2 C dX9_comesTo_103 kX9_231 ?_
          refine v_aload_n C 0 dX9_comesTo_106 rfl rfl ?_
          refine v_cVi C dX9_comesTo_107 lX9_127 mX9_allDays 68 (by omega) hM1.2.2.1 (by decide) rfl (d_allDays l G _ ad _ hn hM1 ) ⟨by decide, by decide⟩ rfl (Nat.le_of_ble_eq_true rfl) ⟨Nat.zero_le _, Nat.zero_le _⟩ (fun r18 E19 hq20 => ?_)
          obtain ⟨hq20, hq20m⟩ := hq20
          have hJ21 := hJ.mr hb1 (by unfold PR; omega) (by unfold PR; omega) hq20m
          have hcyr18 := cal_y hM1.2.1
          have hr18 : (0 : Int) ≤ r18.toInt ∧ r18.toInt ≤ 48100 := by rw [hq20]; exact hcyr18
          refine v_i2l C dX9_comesTo_110 rfl ?_
          refine v_topl (fun x22 _ => ?_)
          refine v_lmul C dX9_comesTo_111 ?_
          refine v_topl (fun x23 _ => ?_)
          refine v_lcmp C dX9_comesTo_112 ?_
          refine v_top (fun x24 _ => ?_)
          refine b_if_ge C 120 dX9_comesTo_113 (by decide) (rfl : Int32.toInt x24 = _) (fun c25 => ?_) (fun c25 => ?_)
          · refine v_iconst (v := 0) C dX9_comesTo_120 (by decide) ?_
            refine v_istore (lv' := [(0, .ref (ad 68)), (1, .long v), (3, .int x5), (4, .int 0)]) C [1, 2, 3, 0] dX9_comesTo_121 (by decide) rfl ?_
            refine v_aload_n C 0 dX9_comesTo_123 rfl rfl ?_
            obtain ⟨im26, hM26, hb26⟩ := hJ21.1
            have hq26 := hM26.b
            refine v_getr C 68 dX9_comesTo_124 fX9_100 (by omega) hM26.2.2.1 rfl rfl ?_
            refine v_aload_n C 0 dX9_comesTo_127 rfl rfl ?_
            refine v_geti (v := im26 35) C 68 dX9_comesTo_128 fX9_203 (by omega) hM26.2.2.1 rfl rfl ?_
            have him26_35r : (bd 35).1 ≤ (im26 35).toInt ∧ (im26 35).toInt ≤ (bd 35).2 := hb26 35
            have him26_35 : (1 : Int) ≤ (im26 35).toInt ∧ (im26 35).toInt ≤ 8 := by omega
            refine v_iconst (v := 1) C dX9_comesTo_131 (by decide) ?_
            refine v_isub C dX9_comesTo_132 ?_
            refine v_top (fun x27 ex27 => ?_)
            have hx27 : x27.toInt = ((im26 35).toInt - 1) := by rw [ex27]; exact ti_sub (rfl : Int32.toInt (im26 35) = _) (show (1 : Int32).toInt = 1 by decide) (by omega) (by omega)
            refine v_iload C 3 dX9_comesTo_133 rfl ?_
            refine b_if_eq C 143 dX9_comesTo_135 (by decide) (show (0 : Int32).toInt = 0 by decide) (fun c28 => ?_) (fun c28 => absurd c28 (by decide))
            refine v_iconst (v := 0) C dX9_comesTo_143 (by decide) ?_
            obtain ⟨f30, hE30, hb30⟩ := hJ21.2.1.getA (b := 93) (by omega) rfl
            refine v_ast C 93 dX9_comesTo_144 (by omega) hE30 (ti_in hx27 (by omega) (by omega)) (fun E31 hE31_93 oE31 => ?_)
            rw [ti_cl hx27] at hE31_93
            have hE31_68 := (oE31 68 (by decide)).trans hM26.2.2.1
            have hJ32 := hJ21.with (hJ21.2.1.setA rfl (by unfold PR; omega) hb30 (ti_any 0) hE31_93 oE31) (oE31 68 (by decide)) (oE31 69 (by decide)) (oE31 70 (by decide))
            have hM33 := hM26.of (oE31 68 (by decide)) (oE31 69 (by decide)) (oE31 70 (by decide))
            refine v_iload C 3 dX9_comesTo_145 rfl ?_
            exact v_ret C dX9_comesTo_147 rfl rfl ⟨Or.inl rfl, hJ32⟩
          · refine v_iconst (v := 1) C dX9_comesTo_116 (by decide) ?_
            refine v_goto C 121 dX9_comesTo_117 (by decide) ?_
            refine v_istore (lv' := [(0, .ref (ad 68)), (1, .long v), (3, .int x5), (4, .int 1)]) C [1, 2, 3, 0] dX9_comesTo_121 (by decide) rfl ?_
            refine v_aload_n C 0 dX9_comesTo_123 rfl rfl ?_
            obtain ⟨im34, hM34, hb34⟩ := hJ21.1
            have hq34 := hM34.b
            refine v_getr C 68 dX9_comesTo_124 fX9_100 (by omega) hM34.2.2.1 rfl rfl ?_
            refine v_aload_n C 0 dX9_comesTo_127 rfl rfl ?_
            refine v_geti (v := im34 35) C 68 dX9_comesTo_128 fX9_203 (by omega) hM34.2.2.1 rfl rfl ?_
            have him34_35r : (bd 35).1 ≤ (im34 35).toInt ∧ (im34 35).toInt ≤ (bd 35).2 := hb34 35
            have him34_35 : (1 : Int) ≤ (im34 35).toInt ∧ (im34 35).toInt ≤ 8 := by omega
            refine v_iconst (v := 1) C dX9_comesTo_131 (by decide) ?_
            refine v_isub C dX9_comesTo_132 ?_
            refine v_top (fun x35 ex35 => ?_)
            have hx35 : x35.toInt = ((im34 35).toInt - 1) := by rw [ex35]; exact ti_sub (rfl : Int32.toInt (im34 35) = _) (show (1 : Int32).toInt = 1 by decide) (by omega) (by omega)
            refine v_iload C 3 dX9_comesTo_133 rfl ?_
            refine b_if_eq C 143 dX9_comesTo_135 (by decide) (show (1 : Int32).toInt = 1 by decide) (fun c36 => absurd c36 (by decide)) (fun c36 => ?_)
            refine v_lload_n C 1 dX9_comesTo_138 rfl rfl ?_
            refine v_l2i C dX9_comesTo_139 rfl ?_
            refine v_top (fun x37 _ => ?_)
            refine v_goto C 144 dX9_comesTo_140 (by decide) ?_
            obtain ⟨f39, hE39, hb39⟩ := hJ21.2.1.getA (b := 93) (by omega) rfl
            refine v_ast C 93 dX9_comesTo_144 (by omega) hE39 (ti_in hx35 (by omega) (by omega)) (fun E40 hE40_93 oE40 => ?_)
            rw [ti_cl hx35] at hE40_93
            have hE40_68 := (oE40 68 (by decide)).trans hM34.2.2.1
            have hJ41 := hJ21.with (hJ21.2.1.setA rfl (by unfold PR; omega) hb39 (ti_any x37) hE40_93 oE40) (oE40 68 (by decide)) (oE40 69 (by decide)) (oE40 70 (by decide))
            have hM42 := hM34.of (oE40 68 (by decide)) (oE40 69 (by decide)) (oE40 70 (by decide))
            refine v_iload C 3 dX9_comesTo_145 rfl ?_
            exact v_ret C dX9_comesTo_147 rfl rfl ⟨Or.inr rfl, hJ41⟩
      · refine v_lload_n C 1 dX9_comesTo_72 rfl rfl ?_
        refine v_lconst (v := 0) C dX9_comesTo_73 (by decide) ?_
        refine v_lcmp C dX9_comesTo_74 ?_
        refine v_top (fun x43 _ => ?_)
        refine b_if_lt C 92 dX9_comesTo_75 (by decide) (rfl : Int32.toInt x43 = _) (fun c44 => ?_) (fun c44 => ?_)
        · refine v_iconst (v := 0) C dX9_comesTo_92 (by decide) ?_
          refine v_goto C 121 dX9_comesTo_93 (by decide) ?_
          refine v_istore (lv' := [(0, .ref (ad 68)), (1, .long v), (3, .int x5), (4, .int 0)]) C [1, 2, 3, 0] dX9_comesTo_121 (by decide) rfl ?_
          refine v_aload_n C 0 dX9_comesTo_123 rfl rfl ?_
          refine v_getr C 68 dX9_comesTo_124 fX9_100 (by omega) hM1.2.2.1 rfl rfl ?_
          refine v_aload_n C 0 dX9_comesTo_127 rfl rfl ?_
          refine v_geti (v := im1 35) C 68 dX9_comesTo_128 fX9_203 (by omega) hM1.2.2.1 rfl rfl ?_
          refine v_iconst (v := 1) C dX9_comesTo_131 (by decide) ?_
          refine v_isub C dX9_comesTo_132 ?_
          refine v_top (fun x45 ex45 => ?_)
          have hx45 : x45.toInt = ((im1 35).toInt - 1) := by rw [ex45]; exact ti_sub (rfl : Int32.toInt (im1 35) = _) (show (1 : Int32).toInt = 1 by decide) (by omega) (by omega)
          refine v_iload C 3 dX9_comesTo_133 rfl ?_
          refine b_if_eq C 143 dX9_comesTo_135 (by decide) (show (0 : Int32).toInt = 0 by decide) (fun c46 => ?_) (fun c46 => absurd c46 (by decide))
          refine v_iconst (v := 0) C dX9_comesTo_143 (by decide) ?_
          obtain ⟨f48, hE48, hb48⟩ := hJ.2.1.getA (b := 93) (by omega) rfl
          refine v_ast C 93 dX9_comesTo_144 (by omega) hE48 (ti_in hx45 (by omega) (by omega)) (fun E49 hE49_93 oE49 => ?_)
          rw [ti_cl hx45] at hE49_93
          have hE49_68 := (oE49 68 (by decide)).trans hM1.2.2.1
          have hE49_92 := (oE49 92 (by decide)).trans hE4
          have hJ50 := hJ.with (hJ.2.1.setA rfl (by unfold PR; omega) hb48 (ti_any 0) hE49_93 oE49) (oE49 68 (by decide)) (oE49 69 (by decide)) (oE49 70 (by decide))
          have hM51 := hM1.of (oE49 68 (by decide)) (oE49 69 (by decide)) (oE49 70 (by decide))
          refine v_iload C 3 dX9_comesTo_145 rfl ?_
          exact v_ret C dX9_comesTo_147 rfl rfl ⟨Or.inl rfl, hJ50⟩
        · refine v_lload_n C 1 dX9_comesTo_78 rfl rfl ?_
          refine v_aload_n C 0 dX9_comesTo_79 rfl rfl ?_
          refine v_cVi C dX9_comesTo_80 lX9_127 mX9_allDays 68 (by omega) hM1.2.2.1 (by decide) rfl (d_allDays l G _ ad _ hn hM1 ) ⟨by decide, by decide⟩ rfl (Nat.le_of_ble_eq_true rfl) ⟨Nat.zero_le _, Nat.zero_le _⟩ (fun r52 E53 hq54 => ?_)
          obtain ⟨hq54, hq54m⟩ := hq54
          have hJ55 := hJ.mr hb1 (by unfold PR; omega) (by unfold PR; omega) hq54m
          have hcyr52 := cal_y hM1.2.1
          have hr52 : (0 : Int) ≤ r52.toInt ∧ r52.toInt ≤ 48100 := by rw [hq54]; exact hcyr52
          refine v_i2l C dX9_comesTo_83 rfl ?_
          refine v_topl (fun x56 _ => ?_)
          refine v_lcmp C dX9_comesTo_84 ?_
          refine v_top (fun x57 _ => ?_)
          refine b_if_ge C 92 dX9_comesTo_85 (by decide) (rfl : Int32.toInt x57 = _) (fun c58 => ?_) (fun c58 => ?_)
          · refine v_iconst (v := 0) C dX9_comesTo_92 (by decide) ?_
            refine v_goto C 121 dX9_comesTo_93 (by decide) ?_
            refine v_istore (lv' := [(0, .ref (ad 68)), (1, .long v), (3, .int x5), (4, .int 0)]) C [1, 2, 3, 0] dX9_comesTo_121 (by decide) rfl ?_
            refine v_aload_n C 0 dX9_comesTo_123 rfl rfl ?_
            obtain ⟨im59, hM59, hb59⟩ := hJ55.1
            have hq59 := hM59.b
            refine v_getr C 68 dX9_comesTo_124 fX9_100 (by omega) hM59.2.2.1 rfl rfl ?_
            refine v_aload_n C 0 dX9_comesTo_127 rfl rfl ?_
            refine v_geti (v := im59 35) C 68 dX9_comesTo_128 fX9_203 (by omega) hM59.2.2.1 rfl rfl ?_
            have him59_35r : (bd 35).1 ≤ (im59 35).toInt ∧ (im59 35).toInt ≤ (bd 35).2 := hb59 35
            have him59_35 : (1 : Int) ≤ (im59 35).toInt ∧ (im59 35).toInt ≤ 8 := by omega
            refine v_iconst (v := 1) C dX9_comesTo_131 (by decide) ?_
            refine v_isub C dX9_comesTo_132 ?_
            refine v_top (fun x60 ex60 => ?_)
            have hx60 : x60.toInt = ((im59 35).toInt - 1) := by rw [ex60]; exact ti_sub (rfl : Int32.toInt (im59 35) = _) (show (1 : Int32).toInt = 1 by decide) (by omega) (by omega)
            refine v_iload C 3 dX9_comesTo_133 rfl ?_
            refine b_if_eq C 143 dX9_comesTo_135 (by decide) (show (0 : Int32).toInt = 0 by decide) (fun c61 => ?_) (fun c61 => absurd c61 (by decide))
            refine v_iconst (v := 0) C dX9_comesTo_143 (by decide) ?_
            obtain ⟨f63, hE63, hb63⟩ := hJ55.2.1.getA (b := 93) (by omega) rfl
            refine v_ast C 93 dX9_comesTo_144 (by omega) hE63 (ti_in hx60 (by omega) (by omega)) (fun E64 hE64_93 oE64 => ?_)
            rw [ti_cl hx60] at hE64_93
            have hE64_68 := (oE64 68 (by decide)).trans hM59.2.2.1
            have hJ65 := hJ55.with (hJ55.2.1.setA rfl (by unfold PR; omega) hb63 (ti_any 0) hE64_93 oE64) (oE64 68 (by decide)) (oE64 69 (by decide)) (oE64 70 (by decide))
            have hM66 := hM59.of (oE64 68 (by decide)) (oE64 69 (by decide)) (oE64 70 (by decide))
            refine v_iload C 3 dX9_comesTo_145 rfl ?_
            exact v_ret C dX9_comesTo_147 rfl rfl ⟨Or.inl rfl, hJ65⟩
          · refine v_iconst (v := 1) C dX9_comesTo_88 (by decide) ?_
            refine v_goto C 121 dX9_comesTo_89 (by decide) ?_
            refine v_istore (lv' := [(0, .ref (ad 68)), (1, .long v), (3, .int x5), (4, .int 1)]) C [1, 2, 3, 0] dX9_comesTo_121 (by decide) rfl ?_
            refine v_aload_n C 0 dX9_comesTo_123 rfl rfl ?_
            obtain ⟨im67, hM67, hb67⟩ := hJ55.1
            have hq67 := hM67.b
            refine v_getr C 68 dX9_comesTo_124 fX9_100 (by omega) hM67.2.2.1 rfl rfl ?_
            refine v_aload_n C 0 dX9_comesTo_127 rfl rfl ?_
            refine v_geti (v := im67 35) C 68 dX9_comesTo_128 fX9_203 (by omega) hM67.2.2.1 rfl rfl ?_
            have him67_35r : (bd 35).1 ≤ (im67 35).toInt ∧ (im67 35).toInt ≤ (bd 35).2 := hb67 35
            have him67_35 : (1 : Int) ≤ (im67 35).toInt ∧ (im67 35).toInt ≤ 8 := by omega
            refine v_iconst (v := 1) C dX9_comesTo_131 (by decide) ?_
            refine v_isub C dX9_comesTo_132 ?_
            refine v_top (fun x68 ex68 => ?_)
            have hx68 : x68.toInt = ((im67 35).toInt - 1) := by rw [ex68]; exact ti_sub (rfl : Int32.toInt (im67 35) = _) (show (1 : Int32).toInt = 1 by decide) (by omega) (by omega)
            refine v_iload C 3 dX9_comesTo_133 rfl ?_
            refine b_if_eq C 143 dX9_comesTo_135 (by decide) (show (1 : Int32).toInt = 1 by decide) (fun c69 => absurd c69 (by decide)) (fun c69 => ?_)
            refine v_lload_n C 1 dX9_comesTo_138 rfl rfl ?_
            refine v_l2i C dX9_comesTo_139 rfl ?_
            refine v_top (fun x70 _ => ?_)
            refine v_goto C 144 dX9_comesTo_140 (by decide) ?_
            obtain ⟨f72, hE72, hb72⟩ := hJ55.2.1.getA (b := 93) (by omega) rfl
            refine v_ast C 93 dX9_comesTo_144 (by omega) hE72 (ti_in hx68 (by omega) (by omega)) (fun E73 hE73_93 oE73 => ?_)
            rw [ti_cl hx68] at hE73_93
            have hE73_68 := (oE73 68 (by decide)).trans hM67.2.2.1
            have hJ74 := hJ55.with (hJ55.2.1.setA rfl (by unfold PR; omega) hb72 (ti_any x70) hE73_93 oE73) (oE73 68 (by decide)) (oE73 69 (by decide)) (oE73 70 (by decide))
            have hM75 := hM67.of (oE73 68 (by decide)) (oE73 69 (by decide)) (oE73 70 (by decide))
            refine v_iload C 3 dX9_comesTo_145 rfl ?_
            exact v_ret C dX9_comesTo_147 rfl rfl ⟨Or.inr rfl, hJ74⟩
    · refine v_lload_n C 1 dX9_comesTo_43 rfl rfl ?_
      refine v_ldc2 C dX9_comesTo_44 kX9_227 ?_
      refine v_lcmp C dX9_comesTo_47 ?_
      refine v_top (fun x76 _ => ?_)
      refine b_if_lt C 63 dX9_comesTo_48 (by decide) (rfl : Int32.toInt x76 = _) (fun c77 => ?_) (fun c77 => ?_)
      · refine v_iconst (v := 0) C dX9_comesTo_63 (by decide) ?_
        refine v_goto C 121 dX9_comesTo_64 (by decide) ?_
        refine v_istore (lv' := [(0, .ref (ad 68)), (1, .long v), (3, .int x5), (4, .int 0)]) C [1, 2, 3, 0] dX9_comesTo_121 (by decide) rfl ?_
        refine v_aload_n C 0 dX9_comesTo_123 rfl rfl ?_
        refine v_getr C 68 dX9_comesTo_124 fX9_100 (by omega) hM1.2.2.1 rfl rfl ?_
        refine v_aload_n C 0 dX9_comesTo_127 rfl rfl ?_
        refine v_geti (v := im1 35) C 68 dX9_comesTo_128 fX9_203 (by omega) hM1.2.2.1 rfl rfl ?_
        refine v_iconst (v := 1) C dX9_comesTo_131 (by decide) ?_
        refine v_isub C dX9_comesTo_132 ?_
        refine v_top (fun x78 ex78 => ?_)
        have hx78 : x78.toInt = ((im1 35).toInt - 1) := by rw [ex78]; exact ti_sub (rfl : Int32.toInt (im1 35) = _) (show (1 : Int32).toInt = 1 by decide) (by omega) (by omega)
        refine v_iload C 3 dX9_comesTo_133 rfl ?_
        refine b_if_eq C 143 dX9_comesTo_135 (by decide) (show (0 : Int32).toInt = 0 by decide) (fun c79 => ?_) (fun c79 => absurd c79 (by decide))
        refine v_iconst (v := 0) C dX9_comesTo_143 (by decide) ?_
        obtain ⟨f81, hE81, hb81⟩ := hJ.2.1.getA (b := 93) (by omega) rfl
        refine v_ast C 93 dX9_comesTo_144 (by omega) hE81 (ti_in hx78 (by omega) (by omega)) (fun E82 hE82_93 oE82 => ?_)
        rw [ti_cl hx78] at hE82_93
        have hE82_68 := (oE82 68 (by decide)).trans hM1.2.2.1
        have hE82_92 := (oE82 92 (by decide)).trans hE4
        have hJ83 := hJ.with (hJ.2.1.setA rfl (by unfold PR; omega) hb81 (ti_any 0) hE82_93 oE82) (oE82 68 (by decide)) (oE82 69 (by decide)) (oE82 70 (by decide))
        have hM84 := hM1.of (oE82 68 (by decide)) (oE82 69 (by decide)) (oE82 70 (by decide))
        refine v_iload C 3 dX9_comesTo_145 rfl ?_
        exact v_ret C dX9_comesTo_147 rfl rfl ⟨Or.inl rfl, hJ83⟩
      · refine v_lload_n C 1 dX9_comesTo_51 rfl rfl ?_
        refine v_ldc2 C dX9_comesTo_52 kX9_229 ?_
        refine v_lcmp C dX9_comesTo_55 ?_
        refine v_top (fun x85 _ => ?_)
        refine b_if_gt C 63 dX9_comesTo_56 (by decide) (rfl : Int32.toInt x85 = _) (fun c86 => ?_) (fun c86 => ?_)
        · refine v_iconst (v := 0) C dX9_comesTo_63 (by decide) ?_
          refine v_goto C 121 dX9_comesTo_64 (by decide) ?_
          refine v_istore (lv' := [(0, .ref (ad 68)), (1, .long v), (3, .int x5), (4, .int 0)]) C [1, 2, 3, 0] dX9_comesTo_121 (by decide) rfl ?_
          refine v_aload_n C 0 dX9_comesTo_123 rfl rfl ?_
          refine v_getr C 68 dX9_comesTo_124 fX9_100 (by omega) hM1.2.2.1 rfl rfl ?_
          refine v_aload_n C 0 dX9_comesTo_127 rfl rfl ?_
          refine v_geti (v := im1 35) C 68 dX9_comesTo_128 fX9_203 (by omega) hM1.2.2.1 rfl rfl ?_
          refine v_iconst (v := 1) C dX9_comesTo_131 (by decide) ?_
          refine v_isub C dX9_comesTo_132 ?_
          refine v_top (fun x87 ex87 => ?_)
          have hx87 : x87.toInt = ((im1 35).toInt - 1) := by rw [ex87]; exact ti_sub (rfl : Int32.toInt (im1 35) = _) (show (1 : Int32).toInt = 1 by decide) (by omega) (by omega)
          refine v_iload C 3 dX9_comesTo_133 rfl ?_
          refine b_if_eq C 143 dX9_comesTo_135 (by decide) (show (0 : Int32).toInt = 0 by decide) (fun c88 => ?_) (fun c88 => absurd c88 (by decide))
          refine v_iconst (v := 0) C dX9_comesTo_143 (by decide) ?_
          obtain ⟨f90, hE90, hb90⟩ := hJ.2.1.getA (b := 93) (by omega) rfl
          refine v_ast C 93 dX9_comesTo_144 (by omega) hE90 (ti_in hx87 (by omega) (by omega)) (fun E91 hE91_93 oE91 => ?_)
          rw [ti_cl hx87] at hE91_93
          have hE91_68 := (oE91 68 (by decide)).trans hM1.2.2.1
          have hE91_92 := (oE91 92 (by decide)).trans hE4
          have hJ92 := hJ.with (hJ.2.1.setA rfl (by unfold PR; omega) hb90 (ti_any 0) hE91_93 oE91) (oE91 68 (by decide)) (oE91 69 (by decide)) (oE91 70 (by decide))
          have hM93 := hM1.of (oE91 68 (by decide)) (oE91 69 (by decide)) (oE91 70 (by decide))
          refine v_iload C 3 dX9_comesTo_145 rfl ?_
          exact v_ret C dX9_comesTo_147 rfl rfl ⟨Or.inl rfl, hJ92⟩
        · refine v_iconst (v := 1) C dX9_comesTo_59 (by decide) ?_
          refine v_goto C 121 dX9_comesTo_60 (by decide) ?_
          refine v_istore (lv' := [(0, .ref (ad 68)), (1, .long v), (3, .int x5), (4, .int 1)]) C [1, 2, 3, 0] dX9_comesTo_121 (by decide) rfl ?_
          refine v_aload_n C 0 dX9_comesTo_123 rfl rfl ?_
          refine v_getr C 68 dX9_comesTo_124 fX9_100 (by omega) hM1.2.2.1 rfl rfl ?_
          refine v_aload_n C 0 dX9_comesTo_127 rfl rfl ?_
          refine v_geti (v := im1 35) C 68 dX9_comesTo_128 fX9_203 (by omega) hM1.2.2.1 rfl rfl ?_
          refine v_iconst (v := 1) C dX9_comesTo_131 (by decide) ?_
          refine v_isub C dX9_comesTo_132 ?_
          refine v_top (fun x94 ex94 => ?_)
          have hx94 : x94.toInt = ((im1 35).toInt - 1) := by rw [ex94]; exact ti_sub (rfl : Int32.toInt (im1 35) = _) (show (1 : Int32).toInt = 1 by decide) (by omega) (by omega)
          refine v_iload C 3 dX9_comesTo_133 rfl ?_
          refine b_if_eq C 143 dX9_comesTo_135 (by decide) (show (1 : Int32).toInt = 1 by decide) (fun c95 => absurd c95 (by decide)) (fun c95 => ?_)
          refine v_lload_n C 1 dX9_comesTo_138 rfl rfl ?_
          refine v_l2i C dX9_comesTo_139 rfl ?_
          refine v_top (fun x96 _ => ?_)
          refine v_goto C 144 dX9_comesTo_140 (by decide) ?_
          obtain ⟨f98, hE98, hb98⟩ := hJ.2.1.getA (b := 93) (by omega) rfl
          refine v_ast C 93 dX9_comesTo_144 (by omega) hE98 (ti_in hx94 (by omega) (by omega)) (fun E99 hE99_93 oE99 => ?_)
          rw [ti_cl hx94] at hE99_93
          have hE99_68 := (oE99 68 (by decide)).trans hM1.2.2.1
          have hE99_92 := (oE99 92 (by decide)).trans hE4
          have hJ100 := hJ.with (hJ.2.1.setA rfl (by unfold PR; omega) hb98 (ti_any x96) hE99_93 oE99) (oE99 68 (by decide)) (oE99 69 (by decide)) (oE99 70 (by decide))
          have hM101 := hM1.of (oE99 68 (by decide)) (oE99 69 (by decide)) (oE99 70 (by decide))
          refine v_iload C 3 dX9_comesTo_145 rfl ?_
          exact v_ret C dX9_comesTo_147 rfl rfl ⟨Or.inr rfl, hJ100⟩
  · refine v_lload_n C 1 dX9_comesTo_16 rfl rfl ?_
    refine v_lconst (v := 0) C dX9_comesTo_17 (by decide) ?_
    refine v_lcmp C dX9_comesTo_18 ?_
    refine v_top (fun x102 _ => ?_)
    refine b_if_lt C 34 dX9_comesTo_19 (by decide) (rfl : Int32.toInt x102 = _) (fun c103 => ?_) (fun c103 => ?_)
    · refine v_iconst (v := 0) C dX9_comesTo_34 (by decide) ?_
      refine v_goto C 121 dX9_comesTo_35 (by decide) ?_
      refine v_istore (lv' := [(0, .ref (ad 68)), (1, .long v), (3, .int x5), (4, .int 0)]) C [1, 2, 3, 0] dX9_comesTo_121 (by decide) rfl ?_
      refine v_aload_n C 0 dX9_comesTo_123 rfl rfl ?_
      refine v_getr C 68 dX9_comesTo_124 fX9_100 (by omega) hM1.2.2.1 rfl rfl ?_
      refine v_aload_n C 0 dX9_comesTo_127 rfl rfl ?_
      refine v_geti (v := im1 35) C 68 dX9_comesTo_128 fX9_203 (by omega) hM1.2.2.1 rfl rfl ?_
      refine v_iconst (v := 1) C dX9_comesTo_131 (by decide) ?_
      refine v_isub C dX9_comesTo_132 ?_
      refine v_top (fun x104 ex104 => ?_)
      have hx104 : x104.toInt = ((im1 35).toInt - 1) := by rw [ex104]; exact ti_sub (rfl : Int32.toInt (im1 35) = _) (show (1 : Int32).toInt = 1 by decide) (by omega) (by omega)
      refine v_iload C 3 dX9_comesTo_133 rfl ?_
      refine b_if_eq C 143 dX9_comesTo_135 (by decide) (show (0 : Int32).toInt = 0 by decide) (fun c105 => ?_) (fun c105 => absurd c105 (by decide))
      refine v_iconst (v := 0) C dX9_comesTo_143 (by decide) ?_
      obtain ⟨f107, hE107, hb107⟩ := hJ.2.1.getA (b := 93) (by omega) rfl
      refine v_ast C 93 dX9_comesTo_144 (by omega) hE107 (ti_in hx104 (by omega) (by omega)) (fun E108 hE108_93 oE108 => ?_)
      rw [ti_cl hx104] at hE108_93
      have hE108_68 := (oE108 68 (by decide)).trans hM1.2.2.1
      have hE108_92 := (oE108 92 (by decide)).trans hE4
      have hJ109 := hJ.with (hJ.2.1.setA rfl (by unfold PR; omega) hb107 (ti_any 0) hE108_93 oE108) (oE108 68 (by decide)) (oE108 69 (by decide)) (oE108 70 (by decide))
      have hM110 := hM1.of (oE108 68 (by decide)) (oE108 69 (by decide)) (oE108 70 (by decide))
      refine v_iload C 3 dX9_comesTo_145 rfl ?_
      exact v_ret C dX9_comesTo_147 rfl rfl ⟨Or.inl rfl, hJ109⟩
    · refine v_lload_n C 1 dX9_comesTo_22 rfl rfl ?_
      refine v_ldc2 C dX9_comesTo_23 kX9_225 ?_
      refine v_lcmp C dX9_comesTo_26 ?_
      refine v_top (fun x111 _ => ?_)
      refine b_if_gt C 34 dX9_comesTo_27 (by decide) (rfl : Int32.toInt x111 = _) (fun c112 => ?_) (fun c112 => ?_)
      · refine v_iconst (v := 0) C dX9_comesTo_34 (by decide) ?_
        refine v_goto C 121 dX9_comesTo_35 (by decide) ?_
        refine v_istore (lv' := [(0, .ref (ad 68)), (1, .long v), (3, .int x5), (4, .int 0)]) C [1, 2, 3, 0] dX9_comesTo_121 (by decide) rfl ?_
        refine v_aload_n C 0 dX9_comesTo_123 rfl rfl ?_
        refine v_getr C 68 dX9_comesTo_124 fX9_100 (by omega) hM1.2.2.1 rfl rfl ?_
        refine v_aload_n C 0 dX9_comesTo_127 rfl rfl ?_
        refine v_geti (v := im1 35) C 68 dX9_comesTo_128 fX9_203 (by omega) hM1.2.2.1 rfl rfl ?_
        refine v_iconst (v := 1) C dX9_comesTo_131 (by decide) ?_
        refine v_isub C dX9_comesTo_132 ?_
        refine v_top (fun x113 ex113 => ?_)
        have hx113 : x113.toInt = ((im1 35).toInt - 1) := by rw [ex113]; exact ti_sub (rfl : Int32.toInt (im1 35) = _) (show (1 : Int32).toInt = 1 by decide) (by omega) (by omega)
        refine v_iload C 3 dX9_comesTo_133 rfl ?_
        refine b_if_eq C 143 dX9_comesTo_135 (by decide) (show (0 : Int32).toInt = 0 by decide) (fun c114 => ?_) (fun c114 => absurd c114 (by decide))
        refine v_iconst (v := 0) C dX9_comesTo_143 (by decide) ?_
        obtain ⟨f116, hE116, hb116⟩ := hJ.2.1.getA (b := 93) (by omega) rfl
        refine v_ast C 93 dX9_comesTo_144 (by omega) hE116 (ti_in hx113 (by omega) (by omega)) (fun E117 hE117_93 oE117 => ?_)
        rw [ti_cl hx113] at hE117_93
        have hE117_68 := (oE117 68 (by decide)).trans hM1.2.2.1
        have hE117_92 := (oE117 92 (by decide)).trans hE4
        have hJ118 := hJ.with (hJ.2.1.setA rfl (by unfold PR; omega) hb116 (ti_any 0) hE117_93 oE117) (oE117 68 (by decide)) (oE117 69 (by decide)) (oE117 70 (by decide))
        have hM119 := hM1.of (oE117 68 (by decide)) (oE117 69 (by decide)) (oE117 70 (by decide))
        refine v_iload C 3 dX9_comesTo_145 rfl ?_
        exact v_ret C dX9_comesTo_147 rfl rfl ⟨Or.inl rfl, hJ118⟩
      · refine v_iconst (v := 1) C dX9_comesTo_30 (by decide) ?_
        refine v_goto C 121 dX9_comesTo_31 (by decide) ?_
        refine v_istore (lv' := [(0, .ref (ad 68)), (1, .long v), (3, .int x5), (4, .int 1)]) C [1, 2, 3, 0] dX9_comesTo_121 (by decide) rfl ?_
        refine v_aload_n C 0 dX9_comesTo_123 rfl rfl ?_
        refine v_getr C 68 dX9_comesTo_124 fX9_100 (by omega) hM1.2.2.1 rfl rfl ?_
        refine v_aload_n C 0 dX9_comesTo_127 rfl rfl ?_
        refine v_geti (v := im1 35) C 68 dX9_comesTo_128 fX9_203 (by omega) hM1.2.2.1 rfl rfl ?_
        refine v_iconst (v := 1) C dX9_comesTo_131 (by decide) ?_
        refine v_isub C dX9_comesTo_132 ?_
        refine v_top (fun x120 ex120 => ?_)
        have hx120 : x120.toInt = ((im1 35).toInt - 1) := by rw [ex120]; exact ti_sub (rfl : Int32.toInt (im1 35) = _) (show (1 : Int32).toInt = 1 by decide) (by omega) (by omega)
        refine v_iload C 3 dX9_comesTo_133 rfl ?_
        refine b_if_eq C 143 dX9_comesTo_135 (by decide) (show (1 : Int32).toInt = 1 by decide) (fun c121 => absurd c121 (by decide)) (fun c121 => ?_)
        refine v_lload_n C 1 dX9_comesTo_138 rfl rfl ?_
        refine v_l2i C dX9_comesTo_139 rfl ?_
        refine v_top (fun x122 _ => ?_)
        refine v_goto C 144 dX9_comesTo_140 (by decide) ?_
        obtain ⟨f124, hE124, hb124⟩ := hJ.2.1.getA (b := 93) (by omega) rfl
        refine v_ast C 93 dX9_comesTo_144 (by omega) hE124 (ti_in hx120 (by omega) (by omega)) (fun E125 hE125_93 oE125 => ?_)
        rw [ti_cl hx120] at hE125_93
        have hE125_68 := (oE125 68 (by decide)).trans hM1.2.2.1
        have hE125_92 := (oE125 92 (by decide)).trans hE4
        have hJ126 := hJ.with (hJ.2.1.setA rfl (by unfold PR; omega) hb124 (ti_any x122) hE125_93 oE125) (oE125 68 (by decide)) (oE125 69 (by decide)) (oE125 70 (by decide))
        have hM127 := hM1.of (oE125 68 (by decide)) (oE125 69 (by decide)) (oE125 70 (by decide))
        refine v_iload C 3 dX9_comesTo_145 rfl ?_
        exact v_ret C dX9_comesTo_147 rfl rfl ⟨Or.inr rfl, hJ126⟩

set_option maxRecDepth 20000 in
theorem t_X9_does (l : Launch) (G : Gl) (ad : Nat → Nat) {n : Nat} {ic md : Nat → Int32} {bd : Nat → Int × Int} {E0 E : Nat → va_E} {h : Int} (hJ : JM G ad n ic md (upB bd 35 (h, h)) PR E0 E) (hh : 0 ≤ h ∧ h ≤ 8) {fo fx : Nat → Int32} (hfo : E0 89 = aI G 10 fo) (hfx : E0 90 = aI G 10 fx) (i : Int32) (hi : (0 : Int) ≤ i.toInt ∧ i.toInt ≤ 9) (v : Int32) (hnd : ned (fo (i.toInt).toNat).toInt ≤ h) (hdl : h + dlt (fo (i.toInt).toNat).toInt ≤ 8) (hox : ((fo (i.toInt).toNat).toInt = 1 ∨ (fo (i.toInt).toNat).toInt = 4) → 0 ≤ (fx (i.toInt).toNat).toInt ∧ (fx (i.toInt).toNat).toInt ≤ 4) : CtI l G yX9_does cX9_does 8 .boolean 6 147 (n) ad E [.ref (ad 68), .int i, .int v] (fun r E' => (r = 0 ∨ r = 1) ∧ JM G ad n ic md (upB bd 35 (h + dlt (fo (i.toInt).toNat).toInt, h + dlt (fo (i.toInt).toNat).toInt)) PR E0 E') := by
  refine CtI.of (by decide) (Nat.le_of_ble_eq_true rfl) (fun X A C => ?_)
  refine v_sub (lv' := [(0, .ref (ad 68)), (1, .int i), (2, .int v)]) [0, 1, 2] rfl ?_
  have hn := hJ.hn
  have hz16 := upB_n16 (by decide) hJ.2.2.2.2
  refine v_aload_n C 0 dX9_does_0 rfl rfl ?_
  obtain ⟨im1, hM1, hb1⟩ := hJ.1
  have hq1 := hM1.b
  refine v_geti (v := im1 35) C 68 dX9_does_1 fX9_203 (by omega) hM1.2.2.1 rfl rfl ?_
  have him1_35 : (h : Int) ≤ (im1 35).toInt ∧ (im1 35).toInt ≤ h := hb1 35
  refine v_iconst (v := 1) C dX9_does_4 (by decide) ?_
  refine v_isub C dX9_does_5 ?_
  refine v_top (fun x2 ex2 => ?_)
  have hx2 : x2.toInt = ((im1 35).toInt - 1) := by rw [ex2]; exact ti_sub (rfl : Int32.toInt (im1 35) = _) (show (1 : Int32).toInt = 1 by decide) (by omega) (by omega)
  refine v_istore_n (lv' := [(0, .ref (ad 68)), (1, .int i), (2, .int v), (3, .int x2)]) C [1, 2, 3, 0] dX9_does_6 rfl (by decide) rfl ?_
  refine v_iload_n C 3 dX9_does_7 rfl rfl ?_
  have JN3 : ∀ (E5 : Nat → va_E) (y4 : Int64), JM G ad n ic md (upB bd 35 (h, h)) PR E0 E5 → V X G A 8 (QI X G A (n) ad (fun r E' => (r = 0 ∨ r = 1) ∧ JM G ad n ic md (upB bd 35 (h + dlt (fo (i.toInt).toNat).toInt, h + dlt (fo (i.toInt).toNat).toInt)) PR E0 E')) n ad 0 0 E5 22 [(0, .ref (ad 68)), (1, .int i), (2, .int v), (3, .int x2)] [.long y4] := by
    intro E5 y4 hJ6
    refine v_lstore (lv' := [(0, .ref (ad 68)), (1, .int i), (2, .int v), (3, .int x2), (4, .long y4)]) C [1, 2, 3, 4, 0] dX9_does_22 (by decide) rfl ?_
    refine v_aload_n C 0 dX9_does_24 rfl rfl ?_
    obtain ⟨im7, hM7, hb7⟩ := hJ6.1
    have hq7 := hM7.b
    refine v_getr C 68 dX9_does_25 fX9_88 (by omega) hM7.2.2.1 rfl rfl ?_
    refine v_iload_n C 1 dX9_does_28 rfl rfl ?_
    have hE8 := (hJ6.2.1.1 89 (by unfold PR; omega)).trans hfo
    refine v_ald (v := fo (i.toInt).toNat) C 89 dX9_does_29 (by omega) hE8 (ti_in (rfl : Int32.toInt i = _) (by omega) (by omega)) (by rw [ti_cl (rfl : Int32.toInt i = _)]) ?_
    have q9v : Int32.toInt (fo (i.toInt).toNat) = (fo (i.toInt).toNat).toInt := (rfl : Int32.toInt (fo (i.toInt).toNat) = _)
    rcases (show (fo (i.toInt).toNat).toInt = 0 ∨ (fo (i.toInt).toNat).toInt = 1 ∨ (fo (i.toInt).toNat).toInt = 2 ∨ (fo (i.toInt).toNat).toInt = 3 ∨ (fo (i.toInt).toNat).toInt = 4 ∨ (fo (i.toInt).toNat).toInt = 5 ∨ (fo (i.toInt).toNat).toInt = 6 ∨ (fo (i.toInt).toNat).toInt = 7 ∨ (fo (i.toInt).toNat).toInt = 8 ∨ (fo (i.toInt).toNat).toInt = 9 ∨ (fo (i.toInt).toNat).toInt = 10 ∨ ((fo (i.toInt).toNat).toInt < 0 ∨ 10 < (fo (i.toInt).toNat).toInt) by omega) with q9 | q9 | q9 | q9 | q9 | q9 | q9 | q9 | q9 | q9 | q9 | q9
    · refine v_tableIn (off := 58) C 88 dX9_does_30 (by omega) (by omega) (by rw [q9v, q9]; rfl) (by decide) ?_
      have hnn := ned_0 (x := (fo (i.toInt).toNat).toInt) (by omega)
      have hdd := dlt_1 (x := (fo (i.toInt).toNat).toInt) (by omega)
      refine v_aload_n C 0 dX9_does_88 rfl rfl ?_
      refine v_dup C dX9_does_89 rfl ?_
      refine v_geti (v := im7 35) C 68 dX9_does_90 fX9_203 (by omega) hM7.2.2.1 rfl rfl ?_
      have him7_35 : (h : Int) ≤ (im7 35).toInt ∧ (im7 35).toInt ≤ h := hb7 35
      refine v_iconst (v := 1) C dX9_does_93 (by decide) ?_
      refine v_iadd C dX9_does_94 ?_
      refine v_top (fun x10 ex10 => ?_)
      have hx10 : x10.toInt = ((im7 35).toInt + 1) := by rw [ex10]; exact ti_add (rfl : Int32.toInt (im7 35) = _) (show (1 : Int32).toInt = 1 by decide) (by omega) (by omega)
      refine v_puti C 68 dX9_does_95 fX9_203 (by omega) hM7.2.2.1 rfl rfl rfl rfl (fun E11 hE11_68 oE11 => ?_)
      have hE11_89 := (oE11 89 (by decide)).trans hE8
      obtain ⟨hJ12, hM13, hb14⟩ := hJ6.putB hM7 hb7 (k := 35) (v := x10) (by decide) (by unfold PR; omega) hE11_68 oE11
      refine v_aload_n C 0 dX9_does_98 rfl rfl ?_
      refine v_getr C 68 dX9_does_99 fX9_97 (by omega) hE11_68 rfl rfl ?_
      refine v_aload_n C 0 dX9_does_102 rfl rfl ?_
      refine v_geti (v := x10) C 68 dX9_does_103 fX9_203 (by omega) hE11_68 rfl rfl ?_
      refine v_iconst (v := 1) C dX9_does_106 (by decide) ?_
      refine v_isub C dX9_does_107 ?_
      refine v_top (fun x15 ex15 => ?_)
      have hx15 : x15.toInt = (((im7 35).toInt + 1) - 1) := by rw [ex15]; exact ti_sub hx10 (show (1 : Int32).toInt = 1 by decide) (by omega) (by omega)
      refine v_iconst (v := 0) C dX9_does_108 (by decide) ?_
      obtain ⟨f17, hE17, hb17⟩ := hJ12.2.1.getA (b := 92) (by omega) rfl
      refine v_ast C 92 dX9_does_109 (by omega) hE17 (ti_in hx15 (by omega) (by omega)) (fun E18 hE18_92 oE18 => ?_)
      rw [ti_cl hx15] at hE18_92
      have hE18_68 := (oE18 68 (by decide)).trans hE11_68
      have hE18_89 := (oE18 89 (by decide)).trans hE11_89
      have hJ19 := hJ12.with (hJ12.2.1.setA rfl (by unfold PR; omega) hb17 (ti_any 0) hE18_92 oE18) (oE18 68 (by decide)) (oE18 69 (by decide)) (oE18 70 (by decide))
      have hM20 := hM13.of (oE18 68 (by decide)) (oE18 69 (by decide)) (oE18 70 (by decide))
      refine v_aload_n C 0 dX9_does_110 rfl rfl ?_
      refine v_getr C 68 dX9_does_111 fX9_100 (by omega) hM20.2.2.1 rfl rfl ?_
      refine v_aload_n C 0 dX9_does_114 rfl rfl ?_
      refine v_geti (v := x10) C 68 dX9_does_115 fX9_203 (by omega) hM20.2.2.1 rfl rfl ?_
      refine v_iconst (v := 1) C dX9_does_118 (by decide) ?_
      refine v_isub C dX9_does_119 ?_
      refine v_top (fun x21 ex21 => ?_)
      have hx21 : x21.toInt = (((im7 35).toInt + 1) - 1) := by rw [ex21]; exact ti_sub hx10 (show (1 : Int32).toInt = 1 by decide) (by omega) (by omega)
      refine v_iload_n C 2 dX9_does_120 rfl rfl ?_
      obtain ⟨f23, hE23, hb23⟩ := hJ19.2.1.getA (b := 93) (by omega) rfl
      refine v_ast C 93 dX9_does_121 (by omega) hE23 (ti_in hx21 (by omega) (by omega)) (fun E24 hE24_93 oE24 => ?_)
      rw [ti_cl hx21] at hE24_93
      have hE24_68 := (oE24 68 (by decide)).trans hM20.2.2.1
      have hE24_89 := (oE24 89 (by decide)).trans hE18_89
      have hJ25 := hJ19.with (hJ19.2.1.setA rfl (by unfold PR; omega) hb23 (ti_any v) hE24_93 oE24) (oE24 68 (by decide)) (oE24 69 (by decide)) (oE24 70 (by decide))
      have hM26 := hM20.of (oE24 68 (by decide)) (oE24 69 (by decide)) (oE24 70 (by decide))
      refine v_iconst (v := 1) C dX9_does_122 (by decide) ?_
      exact v_ret C dX9_does_123 rfl rfl ⟨Or.inr rfl, hJ25.toB (by decide) (by omega) (by omega)⟩
    · refine v_tableIn (off := 94) C 124 dX9_does_30 (by omega) (by omega) (by rw [q9v, q9]; rfl) (by decide) ?_
      have hnn := ned_1 (x := (fo (i.toInt).toNat).toInt) (by omega)
      have hdd := dlt_0 (x := (fo (i.toInt).toNat).toInt) (by omega)
      refine v_aload_n C 0 dX9_does_124 rfl rfl ?_
      refine v_getr C 68 dX9_does_125 fX9_97 (by omega) hM7.2.2.1 rfl rfl ?_
      refine v_iload_n C 3 dX9_does_128 rfl rfl ?_
      refine v_iconst (v := 1) C dX9_does_129 (by decide) ?_
      obtain ⟨f28, hE28, hb28⟩ := hJ6.2.1.getA (b := 92) (by omega) rfl
      refine v_ast C 92 dX9_does_130 (by omega) hE28 (ti_in hx2 (by omega) (by omega)) (fun E29 hE29_92 oE29 => ?_)
      rw [ti_cl hx2] at hE29_92
      have hE29_68 := (oE29 68 (by decide)).trans hM7.2.2.1
      have hE29_89 := (oE29 89 (by decide)).trans hE8
      have hJ30 := hJ6.with (hJ6.2.1.setA rfl (by unfold PR; omega) hb28 (ti_any 1) hE29_92 oE29) (oE29 68 (by decide)) (oE29 69 (by decide)) (oE29 70 (by decide))
      have hM31 := hM7.of (oE29 68 (by decide)) (oE29 69 (by decide)) (oE29 70 (by decide))
      refine v_aload_n C 0 dX9_does_131 rfl rfl ?_
      refine v_lload C 4 dX9_does_132 rfl ?_
      refine v_aload_n C 0 dX9_does_134 rfl rfl ?_
      refine v_aload_n C 0 dX9_does_135 rfl rfl ?_
      refine v_getr C 68 dX9_does_136 fX9_91 (by omega) hM31.2.2.1 rfl rfl ?_
      refine v_iload_n C 1 dX9_does_139 rfl rfl ?_
      have hE32 := (hJ30.2.1.1 90 (by unfold PR; omega)).trans hfx
      refine v_ald (v := fx (i.toInt).toNat) C 90 dX9_does_140 (by omega) hE32 (ti_in (rfl : Int32.toInt i = _) (by omega) (by omega)) (by rw [ti_cl (rfl : Int32.toInt i = _)]) ?_
      refine v_lload C 4 dX9_does_141 rfl ?_
      refine v_l2i C dX9_does_143 rfl ?_
      refine v_top (fun x33 _ => ?_)
      refine v_cVi C dX9_does_144 lX9_182 mX9_offsetAt 68 (by omega) hM31.2.2.1 (by decide) rfl (t_X9_offsetAt l G ad hJ30 (fx (i.toInt).toNat) (show (0 : Int) ≤ Int32.toInt (fx (i.toInt).toNat) ∧ Int32.toInt (fx (i.toInt).toNat) ≤ 4 by omega) x33) ⟨by decide, by decide⟩ rfl (Nat.le_of_ble_eq_true rfl) ⟨Nat.zero_le _, Nat.zero_le _⟩ (fun r34 E35 hp36 => ?_)
      obtain ⟨hp36, hJ37⟩ := hp36
      refine v_i2l C dX9_does_147 rfl ?_
      refine v_topl (fun x38 _ => ?_)
      refine v_ladd C dX9_does_148 ?_
      refine v_topl (fun x39 _ => ?_)
      obtain ⟨im44, hM44, hb44⟩ := hJ37.1
      have hq44 := hM44.b
      refine v_cVi C dX9_does_149 lX9_242 mX9_comesTo 68 (by omega) hM44.2.2.1 (by decide) rfl (t_X9_comesTo l G ad hJ37 (show (1 : Int) ≤ h ∧ h ≤ 8 by omega) x39) ⟨by decide, by decide⟩ rfl (Nat.le_of_ble_eq_true rfl) ⟨Nat.zero_le _, Nat.zero_le _⟩ (fun r40 E41 hp42 => ?_)
      obtain ⟨hp42, hJ43⟩ := hp42
      rcases hp42 with rfl | rfl
      · exact v_ret C dX9_does_152 rfl rfl ⟨Or.inl rfl, hJ43.toB (by decide) (by omega) (by omega)⟩
      · exact v_ret C dX9_does_152 rfl rfl ⟨Or.inr rfl, hJ43.toB (by decide) (by omega) (by omega)⟩
    · refine v_tableIn (off := 123) C 153 dX9_does_30 (by omega) (by omega) (by rw [q9v, q9]; rfl) (by decide) ?_
      have hnn := ned_1 (x := (fo (i.toInt).toNat).toInt) (by omega)
      have hdd := dlt_0 (x := (fo (i.toInt).toNat).toInt) (by omega)
      refine v_aload_n C 0 dX9_does_153 rfl rfl ?_
      refine v_getr C 68 dX9_does_154 fX9_97 (by omega) hM7.2.2.1 rfl rfl ?_
      refine v_iload_n C 3 dX9_does_157 rfl rfl ?_
      refine v_iconst (v := 2) C dX9_does_158 (by decide) ?_
      obtain ⟨f46, hE46, hb46⟩ := hJ6.2.1.getA (b := 92) (by omega) rfl
      refine v_ast C 92 dX9_does_159 (by omega) hE46 (ti_in hx2 (by omega) (by omega)) (fun E47 hE47_92 oE47 => ?_)
      rw [ti_cl hx2] at hE47_92
      have hE47_68 := (oE47 68 (by decide)).trans hM7.2.2.1
      have hE47_89 := (oE47 89 (by decide)).trans hE8
      have hJ48 := hJ6.with (hJ6.2.1.setA rfl (by unfold PR; omega) hb46 (ti_any 2) hE47_92 oE47) (oE47 68 (by decide)) (oE47 69 (by decide)) (oE47 70 (by decide))
      have hM49 := hM7.of (oE47 68 (by decide)) (oE47 69 (by decide)) (oE47 70 (by decide))
      refine v_aload_n C 0 dX9_does_160 rfl rfl ?_
      refine v_lload C 4 dX9_does_161 rfl ?_
      refine v_ldc2 C dX9_does_163 kX9_231 ?_
      refine v_ldiv C dX9_does_166 (by decide) ?_
      refine v_topl (fun x50 _ => ?_)
      refine v_cVi C dX9_does_167 lX9_242 mX9_comesTo 68 (by omega) hM49.2.2.1 (by decide) rfl (t_X9_comesTo l G ad hJ48 (show (1 : Int) ≤ h ∧ h ≤ 8 by omega) x50) ⟨by decide, by decide⟩ rfl (Nat.le_of_ble_eq_true rfl) ⟨Nat.zero_le _, Nat.zero_le _⟩ (fun r51 E52 hp53 => ?_)
      obtain ⟨hp53, hJ54⟩ := hp53
      rcases hp53 with rfl | rfl
      · exact v_ret C dX9_does_170 rfl rfl ⟨Or.inl rfl, hJ54.toB (by decide) (by omega) (by omega)⟩
      · exact v_ret C dX9_does_170 rfl rfl ⟨Or.inr rfl, hJ54.toB (by decide) (by omega) (by omega)⟩
    · refine v_tableIn (off := 141) C 171 dX9_does_30 (by omega) (by omega) (by rw [q9v, q9]; rfl) (by decide) ?_
      have hnn := ned_1 (x := (fo (i.toInt).toNat).toInt) (by omega)
      have hdd := dlt_0 (x := (fo (i.toInt).toNat).toInt) (by omega)
      refine v_aload_n C 0 dX9_does_171 rfl rfl ?_
      refine v_getr C 68 dX9_does_172 fX9_97 (by omega) hM7.2.2.1 rfl rfl ?_
      refine v_iload_n C 3 dX9_does_175 rfl rfl ?_
      refine v_iconst (v := 1) C dX9_does_176 (by decide) ?_
      obtain ⟨f56, hE56, hb56⟩ := hJ6.2.1.getA (b := 92) (by omega) rfl
      refine v_ast C 92 dX9_does_177 (by omega) hE56 (ti_in hx2 (by omega) (by omega)) (fun E57 hE57_92 oE57 => ?_)
      rw [ti_cl hx2] at hE57_92
      have hE57_68 := (oE57 68 (by decide)).trans hM7.2.2.1
      have hE57_89 := (oE57 89 (by decide)).trans hE8
      have hJ58 := hJ6.with (hJ6.2.1.setA rfl (by unfold PR; omega) hb56 (ti_any 1) hE57_92 oE57) (oE57 68 (by decide)) (oE57 69 (by decide)) (oE57 70 (by decide))
      have hM59 := hM7.of (oE57 68 (by decide)) (oE57 69 (by decide)) (oE57 70 (by decide))
      refine v_aload_n C 0 dX9_does_178 rfl rfl ?_
      refine v_lload C 4 dX9_does_179 rfl ?_
      refine v_ldc2 C dX9_does_181 kX9_231 ?_
      refine v_lmul C dX9_does_184 ?_
      refine v_topl (fun x60 _ => ?_)
      refine v_aload_n C 0 dX9_does_185 rfl rfl ?_
      refine v_getr C 68 dX9_does_186 fX9_91 (by omega) hM59.2.2.1 rfl rfl ?_
      refine v_iload_n C 1 dX9_does_189 rfl rfl ?_
      have hE61 := (hJ58.2.1.1 90 (by unfold PR; omega)).trans hfx
      refine v_ald (v := fx (i.toInt).toNat) C 90 dX9_does_190 (by omega) hE61 (ti_in (rfl : Int32.toInt i = _) (by omega) (by omega)) (by rw [ti_cl (rfl : Int32.toInt i = _)]) ?_
      refine v_i2l C dX9_does_191 rfl ?_
      refine v_topl (fun x62 _ => ?_)
      refine v_ladd C dX9_does_192 ?_
      refine v_topl (fun x63 _ => ?_)
      refine v_cVi C dX9_does_193 lX9_242 mX9_comesTo 68 (by omega) hM59.2.2.1 (by decide) rfl (t_X9_comesTo l G ad hJ58 (show (1 : Int) ≤ h ∧ h ≤ 8 by omega) x63) ⟨by decide, by decide⟩ rfl (Nat.le_of_ble_eq_true rfl) ⟨Nat.zero_le _, Nat.zero_le _⟩ (fun r64 E65 hp66 => ?_)
      obtain ⟨hp66, hJ67⟩ := hp66
      rcases hp66 with rfl | rfl
      · exact v_ret C dX9_does_196 rfl rfl ⟨Or.inl rfl, hJ67.toB (by decide) (by omega) (by omega)⟩
      · exact v_ret C dX9_does_196 rfl rfl ⟨Or.inr rfl, hJ67.toB (by decide) (by omega) (by omega)⟩
    · refine v_tableIn (off := 167) C 197 dX9_does_30 (by omega) (by omega) (by rw [q9v, q9]; rfl) (by decide) ?_
      have hnn := ned_1 (x := (fo (i.toInt).toNat).toInt) (by omega)
      have hdd := dlt_0 (x := (fo (i.toInt).toNat).toInt) (by omega)
      refine v_aload_n C 0 dX9_does_197 rfl rfl ?_
      refine v_getr C 68 dX9_does_198 fX9_97 (by omega) hM7.2.2.1 rfl rfl ?_
      refine v_iload_n C 3 dX9_does_201 rfl rfl ?_
      refine v_iconst (v := 0) C dX9_does_202 (by decide) ?_
      obtain ⟨f69, hE69, hb69⟩ := hJ6.2.1.getA (b := 92) (by omega) rfl
      refine v_ast C 92 dX9_does_203 (by omega) hE69 (ti_in hx2 (by omega) (by omega)) (fun E70 hE70_92 oE70 => ?_)
      rw [ti_cl hx2] at hE70_92
      have hE70_68 := (oE70 68 (by decide)).trans hM7.2.2.1
      have hE70_89 := (oE70 89 (by decide)).trans hE8
      have hJ71 := hJ6.with (hJ6.2.1.setA rfl (by unfold PR; omega) hb69 (ti_any 0) hE70_92 oE70) (oE70 68 (by decide)) (oE70 69 (by decide)) (oE70 70 (by decide))
      have hM72 := hM7.of (oE70 68 (by decide)) (oE70 69 (by decide)) (oE70 70 (by decide))
      refine v_aload_n C 0 dX9_does_204 rfl rfl ?_
      refine v_aload_n C 0 dX9_does_205 rfl rfl ?_
      refine v_aload_n C 0 dX9_does_206 rfl rfl ?_
      refine v_getr C 68 dX9_does_207 fX9_91 (by omega) hM72.2.2.1 rfl rfl ?_
      refine v_iload_n C 1 dX9_does_210 rfl rfl ?_
      have hE73 := (hJ71.2.1.1 90 (by unfold PR; omega)).trans hfx
      refine v_ald (v := fx (i.toInt).toNat) C 90 dX9_does_211 (by omega) hE73 (ti_in (rfl : Int32.toInt i = _) (by omega) (by omega)) (by rw [ti_cl (rfl : Int32.toInt i = _)]) ?_
      refine v_lload C 4 dX9_does_212 rfl ?_
      refine v_l2i C dX9_does_214 rfl ?_
      refine v_top (fun x74 _ => ?_)
      refine v_aload_n C 0 dX9_does_215 rfl rfl ?_
      refine v_getr C 68 dX9_does_216 fX9_94 (by omega) hM72.2.2.1 rfl rfl ?_
      refine v_iload_n C 1 dX9_does_219 rfl rfl ?_
      obtain ⟨f76, hE76, hb76⟩ := hJ71.2.1.getA (b := 91) (by omega) rfl
      refine v_ald (v := f76 (i.toInt).toNat) C 91 dX9_does_220 (by omega) hE76 (ti_in (rfl : Int32.toInt i = _) (by omega) (by omega)) (by rw [ti_cl (rfl : Int32.toInt i = _)]) ?_
      refine v_top (fun x77 _ => ?_)
      refine v_cVi C dX9_does_221 lX9_246 mX9_turned 68 (by omega) hM72.2.2.1 (by decide) rfl (t_X9_turned l G ad hJ71 (fx (i.toInt).toNat) (show (0 : Int) ≤ Int32.toInt (fx (i.toInt).toNat) ∧ Int32.toInt (fx (i.toInt).toNat) ≤ 4 by omega) x74 x77) ⟨by decide, by decide⟩ rfl (Nat.le_of_ble_eq_true rfl) ⟨Nat.zero_le _, Nat.zero_le _⟩ (fun r78 E79 hp80 => ?_)
      obtain ⟨hp80, hJ81⟩ := hp80
      refine v_i2l C dX9_does_224 rfl ?_
      refine v_topl (fun x82 _ => ?_)
      obtain ⟨im87, hM87, hb87⟩ := hJ81.1
      have hq87 := hM87.b
      refine v_cVi C dX9_does_225 lX9_242 mX9_comesTo 68 (by omega) hM87.2.2.1 (by decide) rfl (t_X9_comesTo l G ad hJ81 (show (1 : Int) ≤ h ∧ h ≤ 8 by omega) x82) ⟨by decide, by decide⟩ rfl (Nat.le_of_ble_eq_true rfl) ⟨Nat.zero_le _, Nat.zero_le _⟩ (fun r83 E84 hp85 => ?_)
      obtain ⟨hp85, hJ86⟩ := hp85
      rcases hp85 with rfl | rfl
      · exact v_ret C dX9_does_228 rfl rfl ⟨Or.inl rfl, hJ86.toB (by decide) (by omega) (by omega)⟩
      · exact v_ret C dX9_does_228 rfl rfl ⟨Or.inr rfl, hJ86.toB (by decide) (by omega) (by omega)⟩
    · refine v_tableIn (off := 199) C 229 dX9_does_30 (by omega) (by omega) (by rw [q9v, q9]; rfl) (by decide) ?_
      have hnn := ned_1 (x := (fo (i.toInt).toNat).toInt) (by omega)
      have hdd := dlt_0 (x := (fo (i.toInt).toNat).toInt) (by omega)
      refine v_aload_n C 0 dX9_does_229 rfl rfl ?_
      refine v_lload C 4 dX9_does_230 rfl ?_
      refine v_aload_n C 0 dX9_does_232 rfl rfl ?_
      refine v_getr C 68 dX9_does_233 fX9_91 (by omega) hM7.2.2.1 rfl rfl ?_
      refine v_iload_n C 1 dX9_does_236 rfl rfl ?_
      have hE88 := (hJ6.2.1.1 90 (by unfold PR; omega)).trans hfx
      refine v_ald (v := fx (i.toInt).toNat) C 90 dX9_does_237 (by omega) hE88 (ti_in (rfl : Int32.toInt i = _) (by omega) (by omega)) (by rw [ti_cl (rfl : Int32.toInt i = _)]) ?_
      refine v_i2l C dX9_does_238 rfl ?_
      refine v_topl (fun x89 _ => ?_)
      refine v_ladd C dX9_does_239 ?_
      refine v_topl (fun x90 _ => ?_)
      refine v_cVi C dX9_does_240 lX9_242 mX9_comesTo 68 (by omega) hM7.2.2.1 (by decide) rfl (t_X9_comesTo l G ad hJ6 (show (1 : Int) ≤ h ∧ h ≤ 8 by omega) x90) ⟨by decide, by decide⟩ rfl (Nat.le_of_ble_eq_true rfl) ⟨Nat.zero_le _, Nat.zero_le _⟩ (fun r91 E92 hp93 => ?_)
      obtain ⟨hp93, hJ94⟩ := hp93
      rcases hp93 with rfl | rfl
      · exact v_ret C dX9_does_243 rfl rfl ⟨Or.inl rfl, hJ94.toB (by decide) (by omega) (by omega)⟩
      · exact v_ret C dX9_does_243 rfl rfl ⟨Or.inr rfl, hJ94.toB (by decide) (by omega) (by omega)⟩
    · refine v_tableIn (off := 214) C 244 dX9_does_30 (by omega) (by omega) (by rw [q9v, q9]; rfl) (by decide) ?_
      have hnn := ned_1 (x := (fo (i.toInt).toNat).toInt) (by omega)
      have hdd := dlt_0 (x := (fo (i.toInt).toNat).toInt) (by omega)
      refine v_aload_n C 0 dX9_does_244 rfl rfl ?_
      refine v_lload C 4 dX9_does_245 rfl ?_
      refine v_aload_n C 0 dX9_does_247 rfl rfl ?_
      refine v_getr C 68 dX9_does_248 fX9_91 (by omega) hM7.2.2.1 rfl rfl ?_
      refine v_iload_n C 1 dX9_does_251 rfl rfl ?_
      have hE95 := (hJ6.2.1.1 90 (by unfold PR; omega)).trans hfx
      refine v_ald (v := fx (i.toInt).toNat) C 90 dX9_does_252 (by omega) hE95 (ti_in (rfl : Int32.toInt i = _) (by omega) (by omega)) (by rw [ti_cl (rfl : Int32.toInt i = _)]) ?_
      refine v_i2l C dX9_does_253 rfl ?_
      refine v_topl (fun x96 _ => ?_)
      refine v_aload_n C 0 dX9_does_254 rfl rfl ?_
      refine v_getr C 68 dX9_does_255 fX9_97 (by omega) hM7.2.2.1 rfl rfl ?_
      refine v_iload_n C 3 dX9_does_258 rfl rfl ?_
      obtain ⟨f98, hE98, hb98⟩ := hJ6.2.1.getA (b := 92) (by omega) rfl
      refine v_ald (v := f98 (((im1 35).toInt - 1)).toNat) C 92 dX9_does_259 (by omega) hE98 (ti_in hx2 (by omega) (by omega)) (by rw [ti_cl hx2]) ?_
      refine v_top (fun x99 _ => ?_)
      refine v_iconst (v := 1) C dX9_does_260 (by decide) ?_
      refine b_icmp_ne C 270 dX9_does_261 (by decide) (rfl : Int32.toInt x99 = _) (show (1 : Int32).toInt = 1 by decide) (fun c100 => ?_) (fun c100 => ?_)
      · refine v_iconst (v := 1) C dX9_does_270 (by decide) ?_
        refine v_i2l C dX9_does_271 rfl ?_
        refine v_topl (fun x101 _ => ?_)
        refine v_lmul C dX9_does_272 ?_
        refine v_topl (fun x102 _ => ?_)
        refine v_ladd C dX9_does_273 ?_
        refine v_topl (fun x103 _ => ?_)
        refine v_cVi C dX9_does_274 lX9_242 mX9_comesTo 68 (by omega) hM7.2.2.1 (by decide) rfl (t_X9_comesTo l G ad hJ6 (show (1 : Int) ≤ h ∧ h ≤ 8 by omega) x103) ⟨by decide, by decide⟩ rfl (Nat.le_of_ble_eq_true rfl) ⟨Nat.zero_le _, Nat.zero_le _⟩ (fun r104 E105 hp106 => ?_)
        obtain ⟨hp106, hJ107⟩ := hp106
        rcases hp106 with rfl | rfl
        · exact v_ret C dX9_does_277 rfl rfl ⟨Or.inl rfl, hJ107.toB (by decide) (by omega) (by omega)⟩
        · exact v_ret C dX9_does_277 rfl rfl ⟨Or.inr rfl, hJ107.toB (by decide) (by omega) (by omega)⟩
      · refine v_sipush (v := 1440) C dX9_does_264 (by decide) ?_
        refine v_goto C 271 dX9_does_267 (by decide) ?_
        refine v_i2l C dX9_does_271 rfl ?_
        refine v_topl (fun x108 _ => ?_)
        refine v_lmul C dX9_does_272 ?_
        refine v_topl (fun x109 _ => ?_)
        refine v_ladd C dX9_does_273 ?_
        refine v_topl (fun x110 _ => ?_)
        refine v_cVi C dX9_does_274 lX9_242 mX9_comesTo 68 (by omega) hM7.2.2.1 (by decide) rfl (t_X9_comesTo l G ad hJ6 (show (1 : Int) ≤ h ∧ h ≤ 8 by omega) x110) ⟨by decide, by decide⟩ rfl (Nat.le_of_ble_eq_true rfl) ⟨Nat.zero_le _, Nat.zero_le _⟩ (fun r111 E112 hp113 => ?_)
        obtain ⟨hp113, hJ114⟩ := hp113
        rcases hp113 with rfl | rfl
        · exact v_ret C dX9_does_277 rfl rfl ⟨Or.inl rfl, hJ114.toB (by decide) (by omega) (by omega)⟩
        · exact v_ret C dX9_does_277 rfl rfl ⟨Or.inr rfl, hJ114.toB (by decide) (by omega) (by omega)⟩
    · refine v_tableIn (off := 248) C 278 dX9_does_30 (by omega) (by omega) (by rw [q9v, q9]; rfl) (by decide) ?_
      have hnn := ned_1 (x := (fo (i.toInt).toNat).toInt) (by omega)
      have hdd := dlt_0 (x := (fo (i.toInt).toNat).toInt) (by omega)
      refine v_aload_n C 0 dX9_does_278 rfl rfl ?_
      refine v_aload_n C 0 dX9_does_279 rfl rfl ?_
      refine v_lload C 4 dX9_does_280 rfl ?_
      refine v_l2i C dX9_does_282 rfl ?_
      refine v_top (fun x115 _ => ?_)
      refine v_aload_n C 0 dX9_does_283 rfl rfl ?_
      refine v_getr C 68 dX9_does_284 fX9_91 (by omega) hM7.2.2.1 rfl rfl ?_
      refine v_iload_n C 1 dX9_does_287 rfl rfl ?_
      have hE116 := (hJ6.2.1.1 90 (by unfold PR; omega)).trans hfx
      refine v_ald (v := fx (i.toInt).toNat) C 90 dX9_does_288 (by omega) hE116 (ti_in (rfl : Int32.toInt i = _) (by omega) (by omega)) (by rw [ti_cl (rfl : Int32.toInt i = _)]) ?_
      refine v_aload_n C 0 dX9_does_289 rfl rfl ?_
      refine v_getr C 68 dX9_does_290 fX9_94 (by omega) hM7.2.2.1 rfl rfl ?_
      refine v_iload_n C 1 dX9_does_293 rfl rfl ?_
      obtain ⟨f118, hE118, hb118⟩ := hJ6.2.1.getA (b := 91) (by omega) rfl
      refine v_ald (v := f118 (i.toInt).toNat) C 91 dX9_does_294 (by omega) hE118 (ti_in (rfl : Int32.toInt i = _) (by omega) (by omega)) (by rw [ti_cl (rfl : Int32.toInt i = _)]) ?_
      refine v_top (fun x119 _ => ?_)
      refine v_cVi C dX9_does_295 lX9_152 mX9_later 68 (by omega) hM7.2.2.1 (by decide) rfl (t_X9_later l G ad hJ6 x115 (fx (i.toInt).toNat) x119) ⟨by decide, by decide⟩ rfl (Nat.le_of_ble_eq_true rfl) ⟨Nat.zero_le _, Nat.zero_le _⟩ (fun r120 E121 hp122 => ?_)
      obtain ⟨hp122, hJ123⟩ := hp122
      refine v_i2l C dX9_does_298 rfl ?_
      refine v_topl (fun x124 _ => ?_)
      obtain ⟨im129, hM129, hb129⟩ := hJ123.1
      have hq129 := hM129.b
      refine v_cVi C dX9_does_299 lX9_242 mX9_comesTo 68 (by omega) hM129.2.2.1 (by decide) rfl (t_X9_comesTo l G ad hJ123 (show (1 : Int) ≤ h ∧ h ≤ 8 by omega) x124) ⟨by decide, by decide⟩ rfl (Nat.le_of_ble_eq_true rfl) ⟨Nat.zero_le _, Nat.zero_le _⟩ (fun r125 E126 hp127 => ?_)
      obtain ⟨hp127, hJ128⟩ := hp127
      rcases hp127 with rfl | rfl
      · exact v_ret C dX9_does_302 rfl rfl ⟨Or.inl rfl, hJ128.toB (by decide) (by omega) (by omega)⟩
      · exact v_ret C dX9_does_302 rfl rfl ⟨Or.inr rfl, hJ128.toB (by decide) (by omega) (by omega)⟩
    · refine v_tableIn (off := 273) C 303 dX9_does_30 (by omega) (by omega) (by rw [q9v, q9]; rfl) (by decide) ?_
      have hnn := ned_2 (x := (fo (i.toInt).toNat).toInt) (by omega)
      have hdd := dlt_m (x := (fo (i.toInt).toNat).toInt) (by omega)
      refine v_aload_n C 0 dX9_does_303 rfl rfl ?_
      refine v_dup C dX9_does_304 rfl ?_
      refine v_geti (v := im7 35) C 68 dX9_does_305 fX9_203 (by omega) hM7.2.2.1 rfl rfl ?_
      have him7_35 : (h : Int) ≤ (im7 35).toInt ∧ (im7 35).toInt ≤ h := hb7 35
      refine v_iconst (v := 1) C dX9_does_308 (by decide) ?_
      refine v_isub C dX9_does_309 ?_
      refine v_top (fun x130 ex130 => ?_)
      have hx130 : x130.toInt = ((im7 35).toInt - 1) := by rw [ex130]; exact ti_sub (rfl : Int32.toInt (im7 35) = _) (show (1 : Int32).toInt = 1 by decide) (by omega) (by omega)
      refine v_puti C 68 dX9_does_310 fX9_203 (by omega) hM7.2.2.1 rfl rfl rfl rfl (fun E131 hE131_68 oE131 => ?_)
      have hE131_89 := (oE131 89 (by decide)).trans hE8
      obtain ⟨hJ132, hM133, hb134⟩ := hJ6.putB hM7 hb7 (k := 35) (v := x130) (by decide) (by unfold PR; omega) hE131_68 oE131
      refine v_aload_n C 0 dX9_does_313 rfl rfl ?_
      refine v_getr C 68 dX9_does_314 fX9_97 (by omega) hE131_68 rfl rfl ?_
      refine v_aload_n C 0 dX9_does_317 rfl rfl ?_
      refine v_geti (v := x130) C 68 dX9_does_318 fX9_203 (by omega) hE131_68 rfl rfl ?_
      refine v_iconst (v := 1) C dX9_does_321 (by decide) ?_
      refine v_isub C dX9_does_322 ?_
      refine v_top (fun x135 ex135 => ?_)
      have hx135 : x135.toInt = (((im7 35).toInt - 1) - 1) := by rw [ex135]; exact ti_sub hx130 (show (1 : Int32).toInt = 1 by decide) (by omega) (by omega)
      obtain ⟨f137, hE137, hb137⟩ := hJ132.2.1.getA (b := 92) (by omega) rfl
      refine v_ald (v := f137 ((((im7 35).toInt - 1) - 1)).toNat) C 92 dX9_does_323 (by omega) hE137 (ti_in hx135 (by omega) (by omega)) (by rw [ti_cl hx135]) ?_
      refine v_top (fun x138 _ => ?_)
      refine v_iconst (v := 2) C dX9_does_324 (by decide) ?_
      refine b_icmp_ne C 332 dX9_does_325 (by decide) (rfl : Int32.toInt x138 = _) (show (2 : Int32).toInt = 2 by decide) (fun c139 => ?_) (fun c139 => ?_)
      · refine v_iconst (v := 0) C dX9_does_332 (by decide) ?_
        refine v_istore (lv' := [(0, .ref (ad 68)), (1, .int i), (2, .int v), (3, .int x2), (4, .long y4), (6, .int 0)]) C [1, 2, 3, 4, 5, 0] dX9_does_333 (by decide) rfl ?_
        refine v_aload_n C 0 dX9_does_335 rfl rfl ?_
        refine v_getr C 68 dX9_does_336 fX9_97 (by omega) hE131_68 rfl rfl ?_
        refine v_aload_n C 0 dX9_does_339 rfl rfl ?_
        refine v_geti (v := x130) C 68 dX9_does_340 fX9_203 (by omega) hE131_68 rfl rfl ?_
        refine v_iconst (v := 1) C dX9_does_343 (by decide) ?_
        refine v_isub C dX9_does_344 ?_
        refine v_top (fun x140 ex140 => ?_)
        have hx140 : x140.toInt = (((im7 35).toInt - 1) - 1) := by rw [ex140]; exact ti_sub hx130 (show (1 : Int32).toInt = 1 by decide) (by omega) (by omega)
        refine v_iconst (v := 3) C dX9_does_345 (by decide) ?_
        refine v_ast C 92 dX9_does_346 (by omega) hE137 (ti_in hx140 (by omega) (by omega)) (fun E141 hE141_92 oE141 => ?_)
        rw [ti_cl hx140] at hE141_92
        have hE141_68 := (oE141 68 (by decide)).trans hE131_68
        have hE141_89 := (oE141 89 (by decide)).trans hE131_89
        have hJ142 := hJ132.with (hJ132.2.1.setA rfl (by unfold PR; omega) hb137 (ti_any 3) hE141_92 oE141) (oE141 68 (by decide)) (oE141 69 (by decide)) (oE141 70 (by decide))
        have hM143 := hM133.of (oE141 68 (by decide)) (oE141 69 (by decide)) (oE141 70 (by decide))
        refine v_aload_n C 0 dX9_does_347 rfl rfl ?_
        refine v_lload C 4 dX9_does_348 rfl ?_
        refine v_aload_n C 0 dX9_does_350 rfl rfl ?_
        refine v_getr C 68 dX9_does_351 fX9_100 (by omega) hM143.2.2.1 rfl rfl ?_
        refine v_aload_n C 0 dX9_does_354 rfl rfl ?_
        refine v_geti (v := x130) C 68 dX9_does_355 fX9_203 (by omega) hM143.2.2.1 rfl rfl ?_
        refine v_iconst (v := 1) C dX9_does_358 (by decide) ?_
        refine v_isub C dX9_does_359 ?_
        refine v_top (fun x144 ex144 => ?_)
        have hx144 : x144.toInt = (((im7 35).toInt - 1) - 1) := by rw [ex144]; exact ti_sub hx130 (show (1 : Int32).toInt = 1 by decide) (by omega) (by omega)
        obtain ⟨f146, hE146, hb146⟩ := hJ142.2.1.getA (b := 93) (by omega) rfl
        refine v_ald (v := f146 ((((im7 35).toInt - 1) - 1)).toNat) C 93 dX9_does_360 (by omega) hE146 (ti_in hx144 (by omega) (by omega)) (by rw [ti_cl hx144]) ?_
        refine v_top (fun x147 _ => ?_)
        refine v_i2l C dX9_does_361 rfl ?_
        refine v_topl (fun x148 _ => ?_)
        refine v_lsub C dX9_does_362 ?_
        refine v_topl (fun x149 _ => ?_)
        refine v_iload C 5 dX9_does_363 rfl ?_
        refine b_if_eq C 374 dX9_does_365 (by decide) (show (0 : Int32).toInt = 0 by decide) (fun c150 => ?_) (fun c150 => absurd c150 (by decide))
        refine v_iconst (v := 1) C dX9_does_374 (by decide) ?_
        refine v_i2l C dX9_does_375 rfl ?_
        refine v_topl (fun x151 _ => ?_)
        refine v_lmul C dX9_does_376 ?_
        refine v_topl (fun x152 _ => ?_)
        refine v_cVi C dX9_does_377 lX9_242 mX9_comesTo 68 (by omega) hM143.2.2.1 (by decide) rfl (t_X9_comesTo l G ad hJ142 (show (1 : Int) ≤ x130.toInt ∧ x130.toInt ≤ 8 by omega) x152) ⟨by decide, by decide⟩ rfl (Nat.le_of_ble_eq_true rfl) ⟨Nat.zero_le _, Nat.zero_le _⟩ (fun r153 E154 hp155 => ?_)
        obtain ⟨hp155, hJ156⟩ := hp155
        rcases hp155 with rfl | rfl
        · exact v_ret C dX9_does_380 rfl rfl ⟨Or.inl rfl, hJ156.toB (by decide) (by omega) (by omega)⟩
        · exact v_ret C dX9_does_380 rfl rfl ⟨Or.inr rfl, hJ156.toB (by decide) (by omega) (by omega)⟩
      · refine v_iconst (v := 1) C dX9_does_328 (by decide) ?_
        refine v_goto C 333 dX9_does_329 (by decide) ?_
        refine v_istore (lv' := [(0, .ref (ad 68)), (1, .int i), (2, .int v), (3, .int x2), (4, .long y4), (6, .int 1)]) C [1, 2, 3, 4, 5, 0] dX9_does_333 (by decide) rfl ?_
        refine v_aload_n C 0 dX9_does_335 rfl rfl ?_
        refine v_getr C 68 dX9_does_336 fX9_97 (by omega) hE131_68 rfl rfl ?_
        refine v_aload_n C 0 dX9_does_339 rfl rfl ?_
        refine v_geti (v := x130) C 68 dX9_does_340 fX9_203 (by omega) hE131_68 rfl rfl ?_
        refine v_iconst (v := 1) C dX9_does_343 (by decide) ?_
        refine v_isub C dX9_does_344 ?_
        refine v_top (fun x157 ex157 => ?_)
        have hx157 : x157.toInt = (((im7 35).toInt - 1) - 1) := by rw [ex157]; exact ti_sub hx130 (show (1 : Int32).toInt = 1 by decide) (by omega) (by omega)
        refine v_iconst (v := 3) C dX9_does_345 (by decide) ?_
        refine v_ast C 92 dX9_does_346 (by omega) hE137 (ti_in hx157 (by omega) (by omega)) (fun E158 hE158_92 oE158 => ?_)
        rw [ti_cl hx157] at hE158_92
        have hE158_68 := (oE158 68 (by decide)).trans hE131_68
        have hE158_89 := (oE158 89 (by decide)).trans hE131_89
        have hJ159 := hJ132.with (hJ132.2.1.setA rfl (by unfold PR; omega) hb137 (ti_any 3) hE158_92 oE158) (oE158 68 (by decide)) (oE158 69 (by decide)) (oE158 70 (by decide))
        have hM160 := hM133.of (oE158 68 (by decide)) (oE158 69 (by decide)) (oE158 70 (by decide))
        refine v_aload_n C 0 dX9_does_347 rfl rfl ?_
        refine v_lload C 4 dX9_does_348 rfl ?_
        refine v_aload_n C 0 dX9_does_350 rfl rfl ?_
        refine v_getr C 68 dX9_does_351 fX9_100 (by omega) hM160.2.2.1 rfl rfl ?_
        refine v_aload_n C 0 dX9_does_354 rfl rfl ?_
        refine v_geti (v := x130) C 68 dX9_does_355 fX9_203 (by omega) hM160.2.2.1 rfl rfl ?_
        refine v_iconst (v := 1) C dX9_does_358 (by decide) ?_
        refine v_isub C dX9_does_359 ?_
        refine v_top (fun x161 ex161 => ?_)
        have hx161 : x161.toInt = (((im7 35).toInt - 1) - 1) := by rw [ex161]; exact ti_sub hx130 (show (1 : Int32).toInt = 1 by decide) (by omega) (by omega)
        obtain ⟨f163, hE163, hb163⟩ := hJ159.2.1.getA (b := 93) (by omega) rfl
        refine v_ald (v := f163 ((((im7 35).toInt - 1) - 1)).toNat) C 93 dX9_does_360 (by omega) hE163 (ti_in hx161 (by omega) (by omega)) (by rw [ti_cl hx161]) ?_
        refine v_top (fun x164 _ => ?_)
        refine v_i2l C dX9_does_361 rfl ?_
        refine v_topl (fun x165 _ => ?_)
        refine v_lsub C dX9_does_362 ?_
        refine v_topl (fun x166 _ => ?_)
        refine v_iload C 5 dX9_does_363 rfl ?_
        refine b_if_eq C 374 dX9_does_365 (by decide) (show (1 : Int32).toInt = 1 by decide) (fun c167 => absurd c167 (by decide)) (fun c167 => ?_)
        refine v_sipush (v := 1440) C dX9_does_368 (by decide) ?_
        refine v_goto C 375 dX9_does_371 (by decide) ?_
        refine v_i2l C dX9_does_375 rfl ?_
        refine v_topl (fun x168 _ => ?_)
        refine v_lmul C dX9_does_376 ?_
        refine v_topl (fun x169 _ => ?_)
        refine v_cVi C dX9_does_377 lX9_242 mX9_comesTo 68 (by omega) hM160.2.2.1 (by decide) rfl (t_X9_comesTo l G ad hJ159 (show (1 : Int) ≤ x130.toInt ∧ x130.toInt ≤ 8 by omega) x169) ⟨by decide, by decide⟩ rfl (Nat.le_of_ble_eq_true rfl) ⟨Nat.zero_le _, Nat.zero_le _⟩ (fun r170 E171 hp172 => ?_)
        obtain ⟨hp172, hJ173⟩ := hp172
        rcases hp172 with rfl | rfl
        · exact v_ret C dX9_does_380 rfl rfl ⟨Or.inl rfl, hJ173.toB (by decide) (by omega) (by omega)⟩
        · exact v_ret C dX9_does_380 rfl rfl ⟨Or.inr rfl, hJ173.toB (by decide) (by omega) (by omega)⟩
    · refine v_tableIn (off := 351) C 381 dX9_does_30 (by omega) (by omega) (by rw [q9v, q9]; rfl) (by decide) ?_
      have hnn := ned_2 (x := (fo (i.toInt).toNat).toInt) (by omega)
      have hdd := dlt_m (x := (fo (i.toInt).toNat).toInt) (by omega)
      refine v_aload_n C 0 dX9_does_381 rfl rfl ?_
      refine v_dup C dX9_does_382 rfl ?_
      refine v_geti (v := im7 35) C 68 dX9_does_383 fX9_203 (by omega) hM7.2.2.1 rfl rfl ?_
      have him7_35 : (h : Int) ≤ (im7 35).toInt ∧ (im7 35).toInt ≤ h := hb7 35
      refine v_iconst (v := 1) C dX9_does_386 (by decide) ?_
      refine v_isub C dX9_does_387 ?_
      refine v_top (fun x174 ex174 => ?_)
      have hx174 : x174.toInt = ((im7 35).toInt - 1) := by rw [ex174]; exact ti_sub (rfl : Int32.toInt (im7 35) = _) (show (1 : Int32).toInt = 1 by decide) (by omega) (by omega)
      refine v_puti C 68 dX9_does_388 fX9_203 (by omega) hM7.2.2.1 rfl rfl rfl rfl (fun E175 hE175_68 oE175 => ?_)
      have hE175_89 := (oE175 89 (by decide)).trans hE8
      obtain ⟨hJ176, hM177, hb178⟩ := hJ6.putB hM7 hb7 (k := 35) (v := x174) (by decide) (by unfold PR; omega) hE175_68 oE175
      refine v_aload_n C 0 dX9_does_391 rfl rfl ?_
      refine v_lload C 4 dX9_does_392 rfl ?_
      refine v_aload_n C 0 dX9_does_394 rfl rfl ?_
      refine v_getr C 68 dX9_does_395 fX9_100 (by omega) hE175_68 rfl rfl ?_
      refine v_aload_n C 0 dX9_does_398 rfl rfl ?_
      refine v_geti (v := x174) C 68 dX9_does_399 fX9_203 (by omega) hE175_68 rfl rfl ?_
      refine v_iconst (v := 1) C dX9_does_402 (by decide) ?_
      refine v_isub C dX9_does_403 ?_
      refine v_top (fun x179 ex179 => ?_)
      have hx179 : x179.toInt = (((im7 35).toInt - 1) - 1) := by rw [ex179]; exact ti_sub hx174 (show (1 : Int32).toInt = 1 by decide) (by omega) (by omega)
      obtain ⟨f181, hE181, hb181⟩ := hJ176.2.1.getA (b := 93) (by omega) rfl
      refine v_ald (v := f181 ((((im7 35).toInt - 1) - 1)).toNat) C 93 dX9_does_404 (by omega) hE181 (ti_in hx179 (by omega) (by omega)) (by rw [ti_cl hx179]) ?_
      refine v_top (fun x182 _ => ?_)
      refine v_i2l C dX9_does_405 rfl ?_
      refine v_topl (fun x183 _ => ?_)
      refine v_ladd C dX9_does_406 ?_
      refine v_topl (fun x184 _ => ?_)
      refine v_cVi C dX9_does_407 lX9_242 mX9_comesTo 68 (by omega) hE175_68 (by decide) rfl (t_X9_comesTo l G ad hJ176 (show (1 : Int) ≤ x174.toInt ∧ x174.toInt ≤ 8 by omega) x184) ⟨by decide, by decide⟩ rfl (Nat.le_of_ble_eq_true rfl) ⟨Nat.zero_le _, Nat.zero_le _⟩ (fun r185 E186 hp187 => ?_)
      obtain ⟨hp187, hJ188⟩ := hp187
      rcases hp187 with rfl | rfl
      · exact v_ret C dX9_does_410 rfl rfl ⟨Or.inl rfl, hJ188.toB (by decide) (by omega) (by omega)⟩
      · exact v_ret C dX9_does_410 rfl rfl ⟨Or.inr rfl, hJ188.toB (by decide) (by omega) (by omega)⟩
    · refine v_tableIn (off := 381) C 411 dX9_does_30 (by omega) (by omega) (by rw [q9v, q9]; rfl) (by decide) ?_
      have hnn := ned_1 (x := (fo (i.toInt).toNat).toInt) (by omega)
      have hdd := dlt_1 (x := (fo (i.toInt).toNat).toInt) (by omega)
      refine v_aload_n C 0 dX9_does_411 rfl rfl ?_
      refine v_dup C dX9_does_412 rfl ?_
      refine v_geti (v := im7 35) C 68 dX9_does_413 fX9_203 (by omega) hM7.2.2.1 rfl rfl ?_
      have him7_35 : (h : Int) ≤ (im7 35).toInt ∧ (im7 35).toInt ≤ h := hb7 35
      refine v_iconst (v := 1) C dX9_does_416 (by decide) ?_
      refine v_iadd C dX9_does_417 ?_
      refine v_top (fun x189 ex189 => ?_)
      have hx189 : x189.toInt = ((im7 35).toInt + 1) := by rw [ex189]; exact ti_add (rfl : Int32.toInt (im7 35) = _) (show (1 : Int32).toInt = 1 by decide) (by omega) (by omega)
      refine v_puti C 68 dX9_does_418 fX9_203 (by omega) hM7.2.2.1 rfl rfl rfl rfl (fun E190 hE190_68 oE190 => ?_)
      have hE190_89 := (oE190 89 (by decide)).trans hE8
      obtain ⟨hJ191, hM192, hb193⟩ := hJ6.putB hM7 hb7 (k := 35) (v := x189) (by decide) (by unfold PR; omega) hE190_68 oE190
      refine v_aload_n C 0 dX9_does_421 rfl rfl ?_
      refine v_getr C 68 dX9_does_422 fX9_97 (by omega) hE190_68 rfl rfl ?_
      refine v_aload_n C 0 dX9_does_425 rfl rfl ?_
      refine v_geti (v := x189) C 68 dX9_does_426 fX9_203 (by omega) hE190_68 rfl rfl ?_
      refine v_iconst (v := 1) C dX9_does_429 (by decide) ?_
      refine v_isub C dX9_does_430 ?_
      refine v_top (fun x194 ex194 => ?_)
      have hx194 : x194.toInt = (((im7 35).toInt + 1) - 1) := by rw [ex194]; exact ti_sub hx189 (show (1 : Int32).toInt = 1 by decide) (by omega) (by omega)
      refine v_aload_n C 0 dX9_does_431 rfl rfl ?_
      refine v_getr C 68 dX9_does_432 fX9_97 (by omega) hE190_68 rfl rfl ?_
      refine v_iload_n C 3 dX9_does_435 rfl rfl ?_
      obtain ⟨f196, hE196, hb196⟩ := hJ191.2.1.getA (b := 92) (by omega) rfl
      refine v_ald (v := f196 (((im1 35).toInt - 1)).toNat) C 92 dX9_does_436 (by omega) hE196 (ti_in hx2 (by omega) (by omega)) (by rw [ti_cl hx2]) ?_
      refine v_top (fun x197 _ => ?_)
      refine v_ast C 92 dX9_does_437 (by omega) hE196 (ti_in hx194 (by omega) (by omega)) (fun E198 hE198_92 oE198 => ?_)
      rw [ti_cl hx194] at hE198_92
      have hE198_68 := (oE198 68 (by decide)).trans hE190_68
      have hE198_89 := (oE198 89 (by decide)).trans hE190_89
      have hJ199 := hJ191.with (hJ191.2.1.setA rfl (by unfold PR; omega) hb196 (ti_any x197) hE198_92 oE198) (oE198 68 (by decide)) (oE198 69 (by decide)) (oE198 70 (by decide))
      have hM200 := hM192.of (oE198 68 (by decide)) (oE198 69 (by decide)) (oE198 70 (by decide))
      refine v_aload_n C 0 dX9_does_438 rfl rfl ?_
      refine v_getr C 68 dX9_does_439 fX9_100 (by omega) hM200.2.2.1 rfl rfl ?_
      refine v_aload_n C 0 dX9_does_442 rfl rfl ?_
      refine v_geti (v := x189) C 68 dX9_does_443 fX9_203 (by omega) hM200.2.2.1 rfl rfl ?_
      refine v_iconst (v := 1) C dX9_does_446 (by decide) ?_
      refine v_isub C dX9_does_447 ?_
      refine v_top (fun x201 ex201 => ?_)
      have hx201 : x201.toInt = (((im7 35).toInt + 1) - 1) := by rw [ex201]; exact ti_sub hx189 (show (1 : Int32).toInt = 1 by decide) (by omega) (by omega)
      refine v_aload_n C 0 dX9_does_448 rfl rfl ?_
      refine v_getr C 68 dX9_does_449 fX9_100 (by omega) hM200.2.2.1 rfl rfl ?_
      refine v_iload_n C 3 dX9_does_452 rfl rfl ?_
      obtain ⟨f203, hE203, hb203⟩ := hJ199.2.1.getA (b := 93) (by omega) rfl
      refine v_ald (v := f203 (((im1 35).toInt - 1)).toNat) C 93 dX9_does_453 (by omega) hE203 (ti_in hx2 (by omega) (by omega)) (by rw [ti_cl hx2]) ?_
      refine v_top (fun x204 _ => ?_)
      refine v_ast C 93 dX9_does_454 (by omega) hE203 (ti_in hx201 (by omega) (by omega)) (fun E205 hE205_93 oE205 => ?_)
      rw [ti_cl hx201] at hE205_93
      have hE205_68 := (oE205 68 (by decide)).trans hM200.2.2.1
      have hE205_89 := (oE205 89 (by decide)).trans hE198_89
      have hJ206 := hJ199.with (hJ199.2.1.setA rfl (by unfold PR; omega) hb203 (ti_any x204) hE205_93 oE205) (oE205 68 (by decide)) (oE205 69 (by decide)) (oE205 70 (by decide))
      have hM207 := hM200.of (oE205 68 (by decide)) (oE205 69 (by decide)) (oE205 70 (by decide))
      refine v_iconst (v := 1) C dX9_does_455 (by decide) ?_
      exact v_ret C dX9_does_456 rfl rfl ⟨Or.inr rfl, hJ206.toB (by decide) (by omega) (by omega)⟩
    · refine v_tableOut C 457 dX9_does_30 (by omega) (by decide) ?_
      have hnn := ned_2 (x := (fo (i.toInt).toNat).toInt) (by omega)
      have hdd := dlt_0 (x := (fo (i.toInt).toNat).toInt) (by omega)
      refine v_aload_n C 0 dX9_does_457 rfl rfl ?_
      refine v_getr C 68 dX9_does_458 fX9_97 (by omega) hM7.2.2.1 rfl rfl ?_
      refine v_iload_n C 3 dX9_does_461 rfl rfl ?_
      obtain ⟨f209, hE209, hb209⟩ := hJ6.2.1.getA (b := 92) (by omega) rfl
      refine v_ald (v := f209 (((im1 35).toInt - 1)).toNat) C 92 dX9_does_462 (by omega) hE209 (ti_in hx2 (by omega) (by omega)) (by rw [ti_cl hx2]) ?_
      refine v_top (fun x210 _ => ?_)
      refine v_istore (lv' := [(0, .ref (ad 68)), (1, .int i), (2, .int v), (3, .int x2), (4, .long y4), (7, .int x210)]) C [1, 2, 3, 4, 5, 0] dX9_does_463 (by decide) rfl ?_
      refine v_aload_n C 0 dX9_does_465 rfl rfl ?_
      refine v_getr C 68 dX9_does_466 fX9_97 (by omega) hM7.2.2.1 rfl rfl ?_
      refine v_iload_n C 3 dX9_does_469 rfl rfl ?_
      refine v_aload_n C 0 dX9_does_470 rfl rfl ?_
      refine v_getr C 68 dX9_does_471 fX9_97 (by omega) hM7.2.2.1 rfl rfl ?_
      refine v_iload_n C 3 dX9_does_474 rfl rfl ?_
      refine v_iconst (v := 1) C dX9_does_475 (by decide) ?_
      refine v_isub C dX9_does_476 ?_
      refine v_top (fun x211 ex211 => ?_)
      have hx211 : x211.toInt = (((im1 35).toInt - 1) - 1) := by rw [ex211]; exact ti_sub hx2 (show (1 : Int32).toInt = 1 by decide) (by omega) (by omega)
      refine v_ald (v := f209 ((((im1 35).toInt - 1) - 1)).toNat) C 92 dX9_does_477 (by omega) hE209 (ti_in hx211 (by omega) (by omega)) (by rw [ti_cl hx211]) ?_
      refine v_top (fun x212 _ => ?_)
      refine v_ast C 92 dX9_does_478 (by omega) hE209 (ti_in hx2 (by omega) (by omega)) (fun E213 hE213_92 oE213 => ?_)
      rw [ti_cl hx2] at hE213_92
      have hE213_68 := (oE213 68 (by decide)).trans hM7.2.2.1
      have hE213_89 := (oE213 89 (by decide)).trans hE8
      have hJ214 := hJ6.with (hJ6.2.1.setA rfl (by unfold PR; omega) hb209 (ti_any x212) hE213_92 oE213) (oE213 68 (by decide)) (oE213 69 (by decide)) (oE213 70 (by decide))
      have hM215 := hM7.of (oE213 68 (by decide)) (oE213 69 (by decide)) (oE213 70 (by decide))
      refine v_aload_n C 0 dX9_does_479 rfl rfl ?_
      refine v_getr C 68 dX9_does_480 fX9_97 (by omega) hM215.2.2.1 rfl rfl ?_
      refine v_iload_n C 3 dX9_does_483 rfl rfl ?_
      refine v_iconst (v := 1) C dX9_does_484 (by decide) ?_
      refine v_isub C dX9_does_485 ?_
      refine v_top (fun x216 ex216 => ?_)
      have hx216 : x216.toInt = (((im1 35).toInt - 1) - 1) := by rw [ex216]; exact ti_sub hx2 (show (1 : Int32).toInt = 1 by decide) (by omega) (by omega)
      refine v_iload C 5 dX9_does_486 rfl ?_
      obtain ⟨f218, hE218, hb218⟩ := hJ214.2.1.getA (b := 92) (by omega) rfl
      refine v_ast C 92 dX9_does_488 (by omega) hE218 (ti_in hx216 (by omega) (by omega)) (fun E219 hE219_92 oE219 => ?_)
      rw [ti_cl hx216] at hE219_92
      have hE219_68 := (oE219 68 (by decide)).trans hM215.2.2.1
      have hE219_89 := (oE219 89 (by decide)).trans hE213_89
      have hJ220 := hJ214.with (hJ214.2.1.setA rfl (by unfold PR; omega) hb218 (ti_any x210) hE219_92 oE219) (oE219 68 (by decide)) (oE219 69 (by decide)) (oE219 70 (by decide))
      have hM221 := hM215.of (oE219 68 (by decide)) (oE219 69 (by decide)) (oE219 70 (by decide))
      refine v_aload_n C 0 dX9_does_489 rfl rfl ?_
      refine v_getr C 68 dX9_does_490 fX9_100 (by omega) hM221.2.2.1 rfl rfl ?_
      refine v_iload_n C 3 dX9_does_493 rfl rfl ?_
      refine v_aload_n C 0 dX9_does_494 rfl rfl ?_
      refine v_getr C 68 dX9_does_495 fX9_100 (by omega) hM221.2.2.1 rfl rfl ?_
      refine v_iload_n C 3 dX9_does_498 rfl rfl ?_
      refine v_iconst (v := 1) C dX9_does_499 (by decide) ?_
      refine v_isub C dX9_does_500 ?_
      refine v_top (fun x222 ex222 => ?_)
      have hx222 : x222.toInt = (((im1 35).toInt - 1) - 1) := by rw [ex222]; exact ti_sub hx2 (show (1 : Int32).toInt = 1 by decide) (by omega) (by omega)
      obtain ⟨f224, hE224, hb224⟩ := hJ220.2.1.getA (b := 93) (by omega) rfl
      refine v_ald (v := f224 ((((im1 35).toInt - 1) - 1)).toNat) C 93 dX9_does_501 (by omega) hE224 (ti_in hx222 (by omega) (by omega)) (by rw [ti_cl hx222]) ?_
      refine v_top (fun x225 _ => ?_)
      refine v_ast C 93 dX9_does_502 (by omega) hE224 (ti_in hx2 (by omega) (by omega)) (fun E226 hE226_93 oE226 => ?_)
      rw [ti_cl hx2] at hE226_93
      have hE226_68 := (oE226 68 (by decide)).trans hM221.2.2.1
      have hE226_89 := (oE226 89 (by decide)).trans hE219_89
      have hJ227 := hJ220.with (hJ220.2.1.setA rfl (by unfold PR; omega) hb224 (ti_any x225) hE226_93 oE226) (oE226 68 (by decide)) (oE226 69 (by decide)) (oE226 70 (by decide))
      have hM228 := hM221.of (oE226 68 (by decide)) (oE226 69 (by decide)) (oE226 70 (by decide))
      refine v_aload_n C 0 dX9_does_503 rfl rfl ?_
      refine v_getr C 68 dX9_does_504 fX9_100 (by omega) hM228.2.2.1 rfl rfl ?_
      refine v_iload_n C 3 dX9_does_507 rfl rfl ?_
      refine v_iconst (v := 1) C dX9_does_508 (by decide) ?_
      refine v_isub C dX9_does_509 ?_
      refine v_top (fun x229 ex229 => ?_)
      have hx229 : x229.toInt = (((im1 35).toInt - 1) - 1) := by rw [ex229]; exact ti_sub hx2 (show (1 : Int32).toInt = 1 by decide) (by omega) (by omega)
      refine v_lload C 4 dX9_does_510 rfl ?_
      refine v_l2i C dX9_does_512 rfl ?_
      refine v_top (fun x230 _ => ?_)
      obtain ⟨f232, hE232, hb232⟩ := hJ227.2.1.getA (b := 93) (by omega) rfl
      refine v_ast C 93 dX9_does_513 (by omega) hE232 (ti_in hx229 (by omega) (by omega)) (fun E233 hE233_93 oE233 => ?_)
      rw [ti_cl hx229] at hE233_93
      have hE233_68 := (oE233 68 (by decide)).trans hM228.2.2.1
      have hE233_89 := (oE233 89 (by decide)).trans hE226_89
      have hJ234 := hJ227.with (hJ227.2.1.setA rfl (by unfold PR; omega) hb232 (ti_any x230) hE233_93 oE233) (oE233 68 (by decide)) (oE233 69 (by decide)) (oE233 70 (by decide))
      have hM235 := hM228.of (oE233 68 (by decide)) (oE233 69 (by decide)) (oE233 70 (by decide))
      refine v_iconst (v := 1) C dX9_does_514 (by decide) ?_
      exact v_ret C dX9_does_515 rfl rfl ⟨Or.inr rfl, hJ234.toB (by decide) (by omega) (by omega)⟩
  refine b_if_lt C 21 dX9_does_8 (by decide) hx2 (fun c236 => ?_) (fun c236 => ?_)
  · refine v_lconst (v := 0) C dX9_does_21 (by decide) ?_
    exact JN3 _ 0 hJ 
  · refine v_aload_n C 0 dX9_does_11 rfl rfl ?_
    refine v_getr C 68 dX9_does_12 fX9_100 (by omega) hM1.2.2.1 rfl rfl ?_
    refine v_iload_n C 3 dX9_does_15 rfl rfl ?_
    obtain ⟨f238, hE238, hb238⟩ := hJ.2.1.getA (b := 93) (by omega) rfl
    refine v_ald (v := f238 (((im1 35).toInt - 1)).toNat) C 93 dX9_does_16 (by omega) hE238 (ti_in hx2 (by omega) (by omega)) (by rw [ti_cl hx2]) ?_
    refine v_top (fun x239 _ => ?_)
    refine v_i2l C dX9_does_17 rfl ?_
    refine v_topl (fun x240 _ => ?_)
    refine v_goto C 22 dX9_does_18 (by decide) ?_
    exact JN3 _ x240 hJ 

set_option maxRecDepth 20000 in
theorem t_X9_runs (l : Launch) (G : Gl) (ad : Nat → Nat) {n : Nat} {ic md : Nat → Int32} {bd : Nat → Int × Int} {E0 E : Nat → va_E} {ab : Int × Int} (hJ : JM G ad n ic md (upB bd 35 ab) PR E0 E) {fo fx : Nat → Int32} {m : Nat} (hfo : E0 89 = aI G 10 fo) (hfx : E0 90 = aI G 10 fx) (hm : m ≤ 10) (hok : okH fo m) (hox : OXm fo fx m) (hf32 : (m : Int) ≤ (bd 32).1 ∧ (bd 32).2 ≤ (m : Int)) (v : Int32) : CtI l G yX9_runs cX9_runs 4 .boolean 7 174 (n) ad E [.ref (ad 68), .int v] (fun r E' => (r = 0 ∨ r = 1) ∧ JM G ad n ic md (upB bd 35 (0, 8)) PR E0 E') := by
  refine CtI.of (by decide) (Nat.le_of_ble_eq_true rfl) (fun X A C => ?_)
  refine v_sub (lv' := [(0, .ref (ad 68)), (1, .int v)]) [0, 1] rfl ?_
  have hn := hJ.hn
  have hz16 := upB_n16 (by decide) hJ.2.2.2.2
  have hg0 : hgt fo (Int32.toInt 0).toNat = 0 := by rw [show (Int32.toInt 0).toNat = 0 by decide]; rfl
  refine v_aload_n C 0 dX9_runs_0 rfl rfl ?_
  refine v_iconst (v := 0) C dX9_runs_1 (by decide) ?_
  obtain ⟨im1, hM1, hb1⟩ := hJ.1
  have hq1 := hM1.b
  refine v_puti C 68 dX9_runs_2 fX9_203 (by omega) hM1.2.2.1 rfl rfl rfl rfl (fun E2 hE2_68 oE2 => ?_)
  obtain ⟨hJ3, hM4, hb5⟩ := hJ.putB hM1 hb1 (k := 35) (v := (0 : Int32)) (by decide) (by unfold PR; omega) hE2_68 oE2
  have hlhJ3 : (0 : Int32).toInt = 0 := by decide
  refine v_iconst (v := 1) C dX9_runs_5 (by decide) ?_
  refine v_istore_n (lv' := [(0, .ref (ad 68)), (1, .int v), (2, .int 1)]) C [1, 2, 0] dX9_runs_6 rfl (by decide) rfl ?_
  refine v_iconst (v := 0) C dX9_runs_7 (by decide) ?_
  refine v_istore_n (lv' := [(0, .ref (ad 68)), (1, .int v), (2, .int 1), (3, .int 0)]) C [1, 2, 3, 0] dX9_runs_8 rfl (by decide) rfl ?_
  have LP6 : ∀ (t : Nat) (E12 : Nat → va_E) (y7 : Int32) (y8 : Int32), JM G ad n ic md (upB bd 35 (hgt fo (y8.toInt).toNat, hgt fo (y8.toInt).toNat)) PR E0 E12 → ((0 : Int) ≤ y8.toInt ∧ y8.toInt ≤ 10) → (y8.toInt ≤ (m : Int)) → (y7 = 0 ∨ y7 = 1) → ((0 : Int) ≤ hgt fo (y8.toInt).toNat ∧ hgt fo (y8.toInt).toNat ≤ 8) → 11 - y8.toInt < (t : Int) → V X G A 4 (QI X G A (n) ad (fun r E' => (r = 0 ∨ r = 1) ∧ JM G ad n ic md (upB bd 35 (0, 8)) PR E0 E')) n ad 0 0 E12 9 [(0, .ref (ad 68)), (1, .int v), (2, .int y7), (3, .int y8)] [] := by
    intro t16
    induction t16 with
    | zero => intro E12 y7 y8 hJ13 hy8 hq9 hq10 hq11 hm15; exfalso; omega
    | succ t16 ih14 =>
      intro E12 y7 y8 hJ13 hy8 hq9 hq10 hq11 hm15
      refine v_iload_n C 3 dX9_runs_9 rfl rfl ?_
      refine v_aload_n C 0 dX9_runs_10 rfl rfl ?_
      obtain ⟨im17, hM17, hb17⟩ := hJ13.1
      have hq17 := hM17.b
      refine v_geti (v := im17 32) C 68 dX9_runs_11 fX9_200 (by omega) hM17.2.2.1 rfl rfl ?_
      have him17_32r : (bd 32).1 ≤ (im17 32).toInt ∧ (im17 32).toInt ≤ (bd 32).2 := hb17 32
      have him17_32 : (m : Int) ≤ (im17 32).toInt ∧ (im17 32).toInt ≤ (m : Int) := by omega
      refine b_icmp_ge C 34 dX9_runs_14 (by decide) (rfl : Int32.toInt y8 = _) (rfl : Int32.toInt (im17 32) = _) (fun c18 => ?_) (fun c18 => ?_)
      · refine v_iload_n C 2 dX9_runs_34 rfl rfl ?_
        exact v_ret C dX9_runs_35 rfl (nb_01 hq10) ⟨hq10, hJ13.toB (by decide) (by omega) (by omega)⟩
      · refine v_iload_n C 2 dX9_runs_17 rfl rfl ?_
        refine b_if_eq C 34 dX9_runs_18 (by decide) (rfl : Int32.toInt y7 = _) (fun c19 => ?_) (fun c19 => ?_)
        · refine v_iload_n C 2 dX9_runs_34 rfl rfl ?_
          exact v_ret C dX9_runs_35 rfl (nb_01 hq10) ⟨hq10, hJ13.toB (by decide) (by omega) (by omega)⟩
        · refine v_aload_n C 0 dX9_runs_21 rfl rfl ?_
          refine v_iload_n C 3 dX9_runs_22 rfl rfl ?_
          refine v_iload_n C 1 dX9_runs_23 rfl rfl ?_
          refine v_cVi C dX9_runs_24 lX9_249 mX9_does 68 (by omega) hM17.2.2.1 (by decide) rfl (t_X9_does l G ad hJ13 (show (0 : Int) ≤ hgt fo (y8.toInt).toNat ∧ hgt fo (y8.toInt).toNat ≤ 8 by omega) hfo hfx y8 (show (0 : Int) ≤ Int32.toInt y8 ∧ Int32.toInt y8 ≤ 9 by omega) v (hok _ (by omega)).1 (hok _ (by omega)).2 (hox _ (by omega))) ⟨by decide, by decide⟩ rfl (Nat.le_of_ble_eq_true rfl) ⟨Nat.zero_le _, Nat.zero_le _⟩ (fun r20 E21 hp22 => ?_)
          obtain ⟨hp22, hJ23⟩ := hp22
          rcases hp22 with rfl | rfl
          · refine v_istore_n (lv' := [(0, .ref (ad 68)), (1, .int v), (2, .int 0), (3, .int y8)]) C [1, 2, 0, 3] dX9_runs_27 rfl (by decide) rfl ?_
            obtain ⟨x24, ex24⟩ : ∃ y : Int32, y = y8 + 1 := ⟨_, rfl⟩
            have hx24 : x24.toInt = (y8.toInt + 1) := by rw [ex24]; exact ti_add (rfl : Int32.toInt y8 = _) (show (1 : Int32).toInt = 1 by decide) (by omega) (by omega)
            refine v_iinc (v := x24) (lv' := [(0, .ref (ad 68)), (1, .int v), (2, .int 0), (3, .int x24)]) C 3 [1, 2, 3, 0] dX9_runs_28 rfl (ex24.symm) (by decide) rfl ?_
            have hS25 : hgt fo (x24.toInt).toNat = hgt fo (y8.toInt).toNat + dlt (fo (y8.toInt).toNat).toInt := by rw [show (x24.toInt).toNat = (y8.toInt).toNat + 1 by omega]; rfl
            have hS25b := dn_b (fo (y8.toInt).toNat).toInt
            have hS25k := hok (y8.toInt).toNat (by omega)
            refine v_goto C 9 dX9_runs_31 (by decide) ?_
            exact ih14 _ 0 x24 (hJ23.toB (by decide) (by have := (show (0 : Int32).toInt = 0 by decide); have := hx24; omega) (by have := (show (0 : Int32).toInt = 0 by decide); have := hx24; omega)) (by have := (show (0 : Int32).toInt = 0 by decide); have := hx24; omega) (by have := (show (0 : Int32).toInt = 0 by decide); have := hx24; omega) (by decide) (by have := (show (0 : Int32).toInt = 0 by decide); have := hx24; omega) (by have := (show (0 : Int32).toInt = 0 by decide); have := hx24; omega)
          · refine v_istore_n (lv' := [(0, .ref (ad 68)), (1, .int v), (2, .int 1), (3, .int y8)]) C [1, 2, 0, 3] dX9_runs_27 rfl (by decide) rfl ?_
            obtain ⟨x26, ex26⟩ : ∃ y : Int32, y = y8 + 1 := ⟨_, rfl⟩
            have hx26 : x26.toInt = (y8.toInt + 1) := by rw [ex26]; exact ti_add (rfl : Int32.toInt y8 = _) (show (1 : Int32).toInt = 1 by decide) (by omega) (by omega)
            refine v_iinc (v := x26) (lv' := [(0, .ref (ad 68)), (1, .int v), (2, .int 1), (3, .int x26)]) C 3 [1, 2, 3, 0] dX9_runs_28 rfl (ex26.symm) (by decide) rfl ?_
            have hS27 : hgt fo (x26.toInt).toNat = hgt fo (y8.toInt).toNat + dlt (fo (y8.toInt).toNat).toInt := by rw [show (x26.toInt).toNat = (y8.toInt).toNat + 1 by omega]; rfl
            have hS27b := dn_b (fo (y8.toInt).toNat).toInt
            have hS27k := hok (y8.toInt).toNat (by omega)
            refine v_goto C 9 dX9_runs_31 (by decide) ?_
            exact ih14 _ 1 x26 (hJ23.toB (by decide) (by have := (show (1 : Int32).toInt = 1 by decide); have := hx26; omega) (by have := (show (1 : Int32).toInt = 1 by decide); have := hx26; omega)) (by have := (show (1 : Int32).toInt = 1 by decide); have := hx26; omega) (by have := (show (1 : Int32).toInt = 1 by decide); have := hx26; omega) (by decide) (by have := (show (1 : Int32).toInt = 1 by decide); have := hx26; omega) (by have := (show (1 : Int32).toInt = 1 by decide); have := hx26; omega)
  exact LP6 100000 _ 1 0 (hJ3.toB (by decide) (by have := (show (1 : Int32).toInt = 1 by decide); have := (show (0 : Int32).toInt = 0 by decide); omega) (by have := (show (1 : Int32).toInt = 1 by decide); have := (show (0 : Int32).toInt = 0 by decide); omega)) (by have := (show (1 : Int32).toInt = 1 by decide); have := (show (0 : Int32).toInt = 0 by decide); omega) (by have := (show (1 : Int32).toInt = 1 by decide); have := (show (0 : Int32).toInt = 0 by decide); omega) (by decide) (by have := (show (1 : Int32).toInt = 1 by decide); have := (show (0 : Int32).toInt = 0 by decide); omega) (by have := (show (1 : Int32).toInt = 1 by decide); have := (show (0 : Int32).toInt = 0 by decide); omega)

