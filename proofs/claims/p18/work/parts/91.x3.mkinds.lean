set_option maxRecDepth 20000 in
theorem m_isTop (l : Launch) (G : Gl) (n : Nat) (ad : Nat → Nat) (E : Nat → va_E) (hn : 98 ≤ n) {im kd : Nat → Int32} (h68 : E 68 = ob 9 (rX9 ad) im) (h92 : E 92 = aI G 8 kd) (hh1 : 0 ≤ (im 35).toInt) (hh2 : (im 35).toInt ≤ 8) (x : Int32)  : CtI l G yX9_isTop cX9_isTop 2 .boolean 0 0 n ad E [.ref (ad 68), .int x] (fun r E' => ((r = 1 ∧ (1 ≤ (im 35).toInt ∧ (kd ((im 35).toInt - 1).toNat).toInt = x.toInt)) ∨ (r = 0 ∧ ¬ (1 ≤ (im 35).toInt ∧ (kd ((im 35).toInt - 1).toNat).toInt = x.toInt))) ∧ E = E') := by
  refine CtI.of (by decide) (Nat.le_of_ble_eq_true rfl) (fun X A C => ?_)
  refine v_sub (lv' := [(0, .ref (ad 68)), (1, .int x)]) [0, 1] rfl ?_
  refine v_aload_n C 0 dX9_isTop_0 rfl rfl ?_
  refine v_geti (v := im 35) C 68 dX9_isTop_1 fX9_203 (by omega) h68 rfl rfl ?_
  refine b_if_le C 26 dX9_isTop_4 (by decide) (rfl : Int32.toInt (im 35) = _) (fun c1 => ?_) (fun c1 => ?_)
  · refine v_iconst (v := 0) C dX9_isTop_26 (by decide) ?_
    exact v_ret C dX9_isTop_27 rfl rfl ⟨Or.inr ⟨rfl, by omega⟩, rfl⟩
  · refine v_aload_n C 0 dX9_isTop_7 rfl rfl ?_
    refine v_getr C 68 dX9_isTop_8 fX9_97 (by omega) h68 rfl rfl ?_
    refine v_aload_n C 0 dX9_isTop_11 rfl rfl ?_
    refine v_geti (v := im 35) C 68 dX9_isTop_12 fX9_203 (by omega) h68 rfl rfl ?_
    refine v_iconst (v := 1) C dX9_isTop_15 (by decide) ?_
    refine v_isub C dX9_isTop_16 ?_
    refine v_top (fun x2 ex2 => ?_)
    have hx2 : x2.toInt = ((im 35).toInt - 1) := by rw [ex2]; exact ti_sub (rfl : Int32.toInt (im 35) = _) (show (1 : Int32).toInt = 1 by decide) (by omega) (by omega)
    refine v_ald (v := kd (((im 35).toInt - 1)).toNat) C 92 dX9_isTop_17 (by omega) h92 (ti_in hx2 (by omega) (by omega)) (by rw [ti_cl hx2]) ?_
    refine v_iload_n C 1 dX9_isTop_18 rfl rfl ?_
    refine b_icmp_ne C 26 dX9_isTop_19 (by decide) (rfl : Int32.toInt (kd (((im 35).toInt - 1)).toNat) = _) (rfl : Int32.toInt x = _) (fun c3 => ?_) (fun c3 => ?_)
    · refine v_iconst (v := 0) C dX9_isTop_26 (by decide) ?_
      exact v_ret C dX9_isTop_27 rfl rfl ⟨Or.inr ⟨rfl, by omega⟩, rfl⟩
    · refine v_iconst (v := 1) C dX9_isTop_22 (by decide) ?_
      refine v_goto C 27 dX9_isTop_23 (by decide) ?_
      exact v_ret C dX9_isTop_27 rfl rfl ⟨Or.inl ⟨rfl, by omega⟩, rfl⟩

set_option maxRecDepth 20000 in
theorem m_laid (l : Launch) (G : Gl) (n : Nat) (ad : Nat → Nat) (E : Nat → va_E) (hn : 98 ≤ n) {im kd : Nat → Int32} (h68 : E 68 = ob 9 (rX9 ad) im) (h92 : E 92 = aI G 8 kd) (hh1 : 0 ≤ (im 35).toInt) (hh2 : (im 35).toInt ≤ 8) (x : Int32)  : CtI l G yX9_laid cX9_laid 2 .boolean 0 0 n ad E [.ref (ad 68), .int x] (fun r E' => ((im 35).toInt = 8 ∧ r = 0 ∧ E = E') ∨ ((im 35).toInt < 8 ∧ r = 1 ∧ ∃ z : Int32, z.toInt = (im 35).toInt + 1 ∧ E' 68 = ob 9 (rX9 ad) (va_up im 35 z) ∧ E' 92 = aI G 8 (upd kd (im 35).toInt.toNat x) ∧ ∀ j, j ≠ 68 → j ≠ 92 → E' j = E j)) := by
  refine CtI.of (by decide) (Nat.le_of_ble_eq_true rfl) (fun X A C => ?_)
  refine v_sub (lv' := [(0, .ref (ad 68)), (1, .int x)]) [0, 1] rfl ?_
  refine v_aload_n C 0 dX9_laid_0 rfl rfl ?_
  refine v_geti (v := im 35) C 68 dX9_laid_1 fX9_203 (by omega) h68 rfl rfl ?_
  refine v_bipush (v := 8) C dX9_laid_4 (by decide) ?_
  refine b_icmp_ne C 11 dX9_laid_6 (by decide) (rfl : Int32.toInt (im 35) = _) (show (8 : Int32).toInt = 8 by decide) (fun c1 => ?_) (fun c1 => ?_)
  · refine v_aload_n C 0 dX9_laid_11 rfl rfl ?_
    refine v_getr C 68 dX9_laid_12 fX9_97 (by omega) h68 rfl rfl ?_
    refine v_aload_n C 0 dX9_laid_15 rfl rfl ?_
    refine v_geti (v := im 35) C 68 dX9_laid_16 fX9_203 (by omega) h68 rfl rfl ?_
    refine v_iload_n C 1 dX9_laid_19 rfl rfl ?_
    refine v_ast C 92 dX9_laid_20 (by omega) h92 (ti_in (rfl : Int32.toInt (im 35) = _) (by omega) (by omega)) (fun E2 hE2_92 oE2 => ?_)
    rw [ti_cl (rfl : Int32.toInt (im 35) = _)] at hE2_92
    have hE2_68 := (oE2 68 (by decide)).trans h68
    refine v_aload_n C 0 dX9_laid_21 rfl rfl ?_
    refine v_dup C dX9_laid_22 rfl ?_
    refine v_geti (v := im 35) C 68 dX9_laid_23 fX9_203 (by omega) hE2_68 rfl rfl ?_
    refine v_iconst (v := 1) C dX9_laid_26 (by decide) ?_
    refine v_iadd C dX9_laid_27 ?_
    refine v_top (fun x3 ex3 => ?_)
    have hx3 : x3.toInt = ((im 35).toInt + 1) := by rw [ex3]; exact ti_add (rfl : Int32.toInt (im 35) = _) (show (1 : Int32).toInt = 1 by decide) (by omega) (by omega)
    refine v_puti C 68 dX9_laid_28 fX9_203 (by omega) hE2_68 rfl rfl rfl rfl (fun E4 hE4_68 oE4 => ?_)
    have hE4_92 := (oE4 92 (by decide)).trans hE2_92
    refine v_iconst (v := 1) C dX9_laid_31 (by decide) ?_
    exact v_ret C dX9_laid_32 rfl rfl (Or.inr ⟨by omega, rfl, x3, hx3, hE4_68, hE4_92, fun j h0 h5 => ((oE4 j h0).trans (oE2 j h5))⟩)
  · refine v_iconst (v := 0) C dX9_laid_9 (by decide) ?_
    exact v_ret C dX9_laid_10 rfl rfl (Or.inl ⟨by omega, rfl, rfl⟩)

set_option maxRecDepth 20000 in
theorem m_became (l : Launch) (G : Gl) (n : Nat) (ad : Nat → Nat) (E : Nat → va_E) (hn : 98 ≤ n) {im kd : Nat → Int32} (h68 : E 68 = ob 9 (rX9 ad) im) (h92 : E 92 = aI G 8 kd) (hh1 : 0 ≤ (im 35).toInt) (hh2 : (im 35).toInt ≤ 8) (x : Int32) (y : Int32)  : CtI l G yX9_became cX9_became 3 .boolean 1 21 n ad E [.ref (ad 68), .int x, .int y] (fun r E' => (¬ (1 ≤ (im 35).toInt ∧ (kd ((im 35).toInt - 1).toNat).toInt = x.toInt) ∧ r = 0 ∧ E = E') ∨ ((1 ≤ (im 35).toInt ∧ (kd ((im 35).toInt - 1).toNat).toInt = x.toInt) ∧ r = 1 ∧ E' 92 = aI G 8 (upd kd ((im 35).toInt - 1).toNat y) ∧ ∀ j, j ≠ 92 → E' j = E j)) := by
  refine CtI.of (by decide) (Nat.le_of_ble_eq_true rfl) (fun X A C => ?_)
  refine v_sub (lv' := [(0, .ref (ad 68)), (1, .int x), (2, .int y)]) [0, 1, 2] rfl ?_
  refine v_aload_n C 0 dX9_became_0 rfl rfl ?_
  refine v_iload_n C 1 dX9_became_1 rfl rfl ?_
  refine v_cVp C dX9_became_2 lX9_213 mX9_isTop 68 (by omega) h68 (by decide) rfl (m_isTop l G n ad _ hn h68 h92 hh1 hh2 x) ⟨by decide, by decide⟩ rfl (Nat.le_of_ble_eq_true rfl) ⟨Nat.zero_le _, Nat.zero_le _⟩ (fun r1 hp2 => ?_)
  rcases hp2 with ⟨rfl, hp2⟩ | ⟨rfl, hp2⟩
  · refine b_if_ne C 10 dX9_became_5 (by decide) (show (1 : Int32).toInt = 1 by decide) (fun c3 => ?_) (fun c3 => absurd c3 (by decide))
    refine v_aload_n C 0 dX9_became_10 rfl rfl ?_
    refine v_getr C 68 dX9_became_11 fX9_97 (by omega) h68 rfl rfl ?_
    refine v_aload_n C 0 dX9_became_14 rfl rfl ?_
    refine v_geti (v := im 35) C 68 dX9_became_15 fX9_203 (by omega) h68 rfl rfl ?_
    refine v_iconst (v := 1) C dX9_became_18 (by decide) ?_
    refine v_isub C dX9_became_19 ?_
    refine v_top (fun x4 ex4 => ?_)
    have hx4 : x4.toInt = ((im 35).toInt - 1) := by rw [ex4]; exact ti_sub (rfl : Int32.toInt (im 35) = _) (show (1 : Int32).toInt = 1 by decide) (by omega) (by omega)
    refine v_iload_n C 2 dX9_became_20 rfl rfl ?_
    refine v_ast C 92 dX9_became_21 (by omega) h92 (ti_in hx4 (by omega) (by omega)) (fun E5 hE5_92 oE5 => ?_)
    rw [ti_cl hx4] at hE5_92
    have hE5_68 := (oE5 68 (by decide)).trans h68
    refine v_iconst (v := 1) C dX9_became_22 (by decide) ?_
    exact v_ret C dX9_became_23 rfl rfl (Or.inr ⟨by omega, rfl, hE5_92, fun j h5 => (oE5 j h5)⟩)
  · refine b_if_ne C 10 dX9_became_5 (by decide) (show (0 : Int32).toInt = 0 by decide) (fun c6 => absurd c6 (by decide)) (fun c6 => ?_)
    refine v_iconst (v := 0) C dX9_became_8 (by decide) ?_
    exact v_ret C dX9_became_9 rfl rfl (Or.inl ⟨by omega, rfl, rfl⟩)

set_option maxRecDepth 20000 in
theorem m_fits (l : Launch) (G : Gl) (n : Nat) (ad : Nat → Nat) (E : Nat → va_E) (hn : 98 ≤ n) {im kd : Nat → Int32} (h68 : E 68 = ob 9 (rX9 ad) im) (h92 : E 92 = aI G 8 kd) (hh1 : 0 ≤ (im 35).toInt) (hh2 : (im 35).toInt ≤ 8) (op : Int32) (hop : 0 ≤ op.toInt ∧ op.toInt ≤ 11)  : CtI l G yX9_fits cX9_fits 3 .boolean 2 43 n ad E [.ref (ad 68), .int op] (fun r E' => (FTs op.toInt (im 35).toInt kd = none ∧ r = 0 ∧ E = E') ∨ (∃ (h1 : Int) (K1 im1 : Nat → Int32), FTs op.toInt (im 35).toInt kd = some (h1, K1) ∧ r = 1 ∧ E' 68 = ob 9 (rX9 ad) im1 ∧ (im1 35).toInt = h1 ∧ (∀ q, q ≠ 35 → im1 q = im q) ∧ E' 92 = aI G 8 K1 ∧ ∀ j, j ≠ 68 → j ≠ 92 → E' j = E j)) := by
  refine CtI.of (by decide) (Nat.le_of_ble_eq_true rfl) (fun X A C => ?_)
  refine v_sub (lv' := [(0, .ref (ad 68)), (1, .int op)]) [0, 1] rfl ?_
  refine v_iload_n C 1 dX9_fits_0 rfl rfl ?_
  have q1v : Int32.toInt op = op.toInt := (rfl : Int32.toInt op = _)
  rcases (show op.toInt = 0 ∨ op.toInt = 1 ∨ op.toInt = 2 ∨ op.toInt = 3 ∨ op.toInt = 4 ∨ op.toInt = 5 ∨ op.toInt = 6 ∨ op.toInt = 7 ∨ op.toInt = 8 ∨ op.toInt = 9 ∨ op.toInt = 10 ∨ (op.toInt < 0 ∨ 10 < op.toInt) by omega) with q1 | q1 | q1 | q1 | q1 | q1 | q1 | q1 | q1 | q1 | q1 | q1
  · refine v_tableIn (off := 59) C 60 dX9_fits_1 (by omega) (by omega) (by rw [q1v, q1]; rfl) (by decide) ?_
    refine v_aload_n C 0 dX9_fits_60 rfl rfl ?_
    refine v_iconst (v := 0) C dX9_fits_61 (by decide) ?_
    refine v_cVi C dX9_fits_62 lX9_206 mX9_laid 68 (by omega) h68 (by decide) rfl (m_laid l G n ad _ hn h68 h92 hh1 hh2 0) ⟨by decide, by decide⟩ rfl (Nat.le_of_ble_eq_true rfl) ⟨Nat.zero_le _, Nat.zero_le _⟩ (fun r2 E3 hq4 => ?_)
    rcases hq4 with ⟨hc5, rfl, rfl⟩ | ⟨hc5, rfl, z5, hz5, hB5, hD5, hO5⟩
    · exact v_ret C dX9_fits_65 rfl rfl (Or.inl ⟨(by first | (exfalso; omega) | (unfold FTs; (repeat first | rw [if_pos (by omega)] | rw [if_neg (by omega)]))), rfl, rfl⟩)
    · exact v_ret C dX9_fits_65 rfl rfl (Or.inr ⟨_, _, _, (by first | (exfalso; omega) | (unfold FTs; (repeat first | rw [if_pos (by omega)] | rw [if_neg (by omega)]))), rfl, hB5, (show (va_up im 35 z5 35).toInt = _ from hz5), (fun q hq => if_neg hq), hD5, fun j h0 h5 => (hO5 j h0 h5)⟩)
  · refine v_tableIn (off := 65) C 66 dX9_fits_1 (by omega) (by omega) (by rw [q1v, q1]; rfl) (by decide) ?_
    refine v_aload_n C 0 dX9_fits_66 rfl rfl ?_
    refine v_iconst (v := 0) C dX9_fits_67 (by decide) ?_
    refine v_iconst (v := 1) C dX9_fits_68 (by decide) ?_
    refine v_cVi C dX9_fits_69 lX9_209 mX9_became 68 (by omega) h68 (by decide) rfl (m_became l G n ad _ hn h68 h92 hh1 hh2 0 1) ⟨by decide, by decide⟩ rfl (Nat.le_of_ble_eq_true rfl) ⟨Nat.zero_le _, Nat.zero_le _⟩ (fun r6 E7 hq8 => ?_)
    rw [show (0 : Int32).toInt = 0 by decide] at hq8
    rcases hq8 with ⟨hc9, rfl, rfl⟩ | ⟨hc9, rfl, hD9, hO9⟩
    · exact v_ret C dX9_fits_72 rfl rfl (Or.inl ⟨(by first | (exfalso; omega) | (unfold FTs; (repeat first | rw [if_pos (by omega)] | rw [if_neg (by omega)]))), rfl, rfl⟩)
    · have hB9 := (hO9 68 (by decide)).trans h68
      exact v_ret C dX9_fits_72 rfl rfl (Or.inr ⟨_, _, _, (by first | (exfalso; omega) | (unfold FTs; (repeat first | rw [if_pos (by omega)] | rw [if_neg (by omega)]))), rfl, hB9, rfl, (fun _ _ => rfl), hD9, fun j h0 h5 => (hO9 j h5)⟩)
  · refine v_tableIn (off := 72) C 73 dX9_fits_1 (by omega) (by omega) (by rw [q1v, q1]; rfl) (by decide) ?_
    refine v_aload_n C 0 dX9_fits_73 rfl rfl ?_
    refine v_iconst (v := 1) C dX9_fits_74 (by decide) ?_
    refine v_iconst (v := 2) C dX9_fits_75 (by decide) ?_
    refine v_cVi C dX9_fits_76 lX9_209 mX9_became 68 (by omega) h68 (by decide) rfl (m_became l G n ad _ hn h68 h92 hh1 hh2 1 2) ⟨by decide, by decide⟩ rfl (Nat.le_of_ble_eq_true rfl) ⟨Nat.zero_le _, Nat.zero_le _⟩ (fun r10 E11 hq12 => ?_)
    rw [show (1 : Int32).toInt = 1 by decide] at hq12
    rcases hq12 with ⟨hc13, rfl, rfl⟩ | ⟨hc13, rfl, hD13, hO13⟩
    · exact v_ret C dX9_fits_79 rfl rfl (Or.inl ⟨(by first | (exfalso; omega) | (unfold FTs; (repeat first | rw [if_pos (by omega)] | rw [if_neg (by omega)]))), rfl, rfl⟩)
    · have hB13 := (hO13 68 (by decide)).trans h68
      exact v_ret C dX9_fits_79 rfl rfl (Or.inr ⟨_, _, _, (by first | (exfalso; omega) | (unfold FTs; (repeat first | rw [if_pos (by omega)] | rw [if_neg (by omega)]))), rfl, hB13, rfl, (fun _ _ => rfl), hD13, fun j h0 h5 => (hO13 j h5)⟩)
  · refine v_tableIn (off := 79) C 80 dX9_fits_1 (by omega) (by omega) (by rw [q1v, q1]; rfl) (by decide) ?_
    refine v_aload_n C 0 dX9_fits_80 rfl rfl ?_
    refine v_iconst (v := 2) C dX9_fits_81 (by decide) ?_
    refine v_iconst (v := 1) C dX9_fits_82 (by decide) ?_
    refine v_cVi C dX9_fits_83 lX9_209 mX9_became 68 (by omega) h68 (by decide) rfl (m_became l G n ad _ hn h68 h92 hh1 hh2 2 1) ⟨by decide, by decide⟩ rfl (Nat.le_of_ble_eq_true rfl) ⟨Nat.zero_le _, Nat.zero_le _⟩ (fun r14 E15 hq16 => ?_)
    rw [show (2 : Int32).toInt = 2 by decide] at hq16
    rcases hq16 with ⟨hc17, rfl, rfl⟩ | ⟨hc17, rfl, hD17, hO17⟩
    · exact v_ret C dX9_fits_86 rfl rfl (Or.inl ⟨(by first | (exfalso; omega) | (unfold FTs; (repeat first | rw [if_pos (by omega)] | rw [if_neg (by omega)]))), rfl, rfl⟩)
    · have hB17 := (hO17 68 (by decide)).trans h68
      exact v_ret C dX9_fits_86 rfl rfl (Or.inr ⟨_, _, _, (by first | (exfalso; omega) | (unfold FTs; (repeat first | rw [if_pos (by omega)] | rw [if_neg (by omega)]))), rfl, hB17, rfl, (fun _ _ => rfl), hD17, fun j h0 h5 => (hO17 j h5)⟩)
  · refine v_tableIn (off := 86) C 87 dX9_fits_1 (by omega) (by omega) (by rw [q1v, q1]; rfl) (by decide) ?_
    refine v_aload_n C 0 dX9_fits_87 rfl rfl ?_
    refine v_iconst (v := 1) C dX9_fits_88 (by decide) ?_
    refine v_iconst (v := 0) C dX9_fits_89 (by decide) ?_
    refine v_cVi C dX9_fits_90 lX9_209 mX9_became 68 (by omega) h68 (by decide) rfl (m_became l G n ad _ hn h68 h92 hh1 hh2 1 0) ⟨by decide, by decide⟩ rfl (Nat.le_of_ble_eq_true rfl) ⟨Nat.zero_le _, Nat.zero_le _⟩ (fun r18 E19 hq20 => ?_)
    rw [show (1 : Int32).toInt = 1 by decide] at hq20
    rcases hq20 with ⟨hc21, rfl, rfl⟩ | ⟨hc21, rfl, hD21, hO21⟩
    · exact v_ret C dX9_fits_93 rfl rfl (Or.inl ⟨(by first | (exfalso; omega) | (unfold FTs; (repeat first | rw [if_pos (by omega)] | rw [if_neg (by omega)]))), rfl, rfl⟩)
    · have hB21 := (hO21 68 (by decide)).trans h68
      exact v_ret C dX9_fits_93 rfl rfl (Or.inr ⟨_, _, _, (by first | (exfalso; omega) | (unfold FTs; (repeat first | rw [if_pos (by omega)] | rw [if_neg (by omega)]))), rfl, hB21, rfl, (fun _ _ => rfl), hD21, fun j h0 h5 => (hO21 j h5)⟩)
  · refine v_tableIn (off := 93) C 94 dX9_fits_1 (by omega) (by omega) (by rw [q1v, q1]; rfl) (by decide) ?_
    refine v_aload_n C 0 dX9_fits_94 rfl rfl ?_
    refine v_iconst (v := 0) C dX9_fits_95 (by decide) ?_
    refine v_cVp C dX9_fits_96 lX9_213 mX9_isTop 68 (by omega) h68 (by decide) rfl (m_isTop l G n ad _ hn h68 h92 hh1 hh2 0) ⟨by decide, by decide⟩ rfl (Nat.le_of_ble_eq_true rfl) ⟨Nat.zero_le _, Nat.zero_le _⟩ (fun r22 hp23 => ?_)
    rw [show (0 : Int32).toInt = 0 by decide] at hp23
    rcases hp23 with ⟨rfl, hp23⟩ | ⟨rfl, hp23⟩
    · refine b_if_ne C 110 dX9_fits_99 (by decide) (show (1 : Int32).toInt = 1 by decide) (fun c24 => ?_) (fun c24 => absurd c24 (by decide))
      refine v_iconst (v := 1) C dX9_fits_110 (by decide) ?_
      refine v_goto C 115 dX9_fits_111 (by decide) ?_
      exact v_ret C dX9_fits_115 rfl rfl (Or.inr ⟨_, _, _, (by first | (exfalso; omega) | (unfold FTs; (repeat first | rw [if_pos (by omega)] | rw [if_neg (by omega)]))), rfl, h68, rfl, (fun _ _ => rfl), h92, fun j h0 h5 => rfl⟩)
    · refine b_if_ne C 110 dX9_fits_99 (by decide) (show (0 : Int32).toInt = 0 by decide) (fun c25 => absurd c25 (by decide)) (fun c25 => ?_)
      refine v_aload_n C 0 dX9_fits_102 rfl rfl ?_
      refine v_iconst (v := 1) C dX9_fits_103 (by decide) ?_
      refine v_cVp C dX9_fits_104 lX9_213 mX9_isTop 68 (by omega) h68 (by decide) rfl (m_isTop l G n ad _ hn h68 h92 hh1 hh2 1) ⟨by decide, by decide⟩ rfl (Nat.le_of_ble_eq_true rfl) ⟨Nat.zero_le _, Nat.zero_le _⟩ (fun r26 hp27 => ?_)
      rw [show (1 : Int32).toInt = 1 by decide] at hp27
      rcases hp27 with ⟨rfl, hp27⟩ | ⟨rfl, hp27⟩
      · refine b_if_eq C 114 dX9_fits_107 (by decide) (show (1 : Int32).toInt = 1 by decide) (fun c28 => absurd c28 (by decide)) (fun c28 => ?_)
        refine v_iconst (v := 1) C dX9_fits_110 (by decide) ?_
        refine v_goto C 115 dX9_fits_111 (by decide) ?_
        exact v_ret C dX9_fits_115 rfl rfl (Or.inr ⟨_, _, _, (by first | (exfalso; omega) | (unfold FTs; (repeat first | rw [if_pos (by omega)] | rw [if_neg (by omega)]))), rfl, h68, rfl, (fun _ _ => rfl), h92, fun j h0 h5 => rfl⟩)
      · refine b_if_eq C 114 dX9_fits_107 (by decide) (show (0 : Int32).toInt = 0 by decide) (fun c29 => ?_) (fun c29 => absurd c29 (by decide))
        refine v_iconst (v := 0) C dX9_fits_114 (by decide) ?_
        exact v_ret C dX9_fits_115 rfl rfl (Or.inl ⟨(by first | (exfalso; omega) | (unfold FTs; (repeat first | rw [if_pos (by omega)] | rw [if_neg (by omega)]))), rfl, rfl⟩)
  · refine v_tableIn (off := 115) C 116 dX9_fits_1 (by omega) (by omega) (by rw [q1v, q1]; rfl) (by decide) ?_
    refine v_aload_n C 0 dX9_fits_116 rfl rfl ?_
    refine v_iconst (v := 2) C dX9_fits_117 (by decide) ?_
    refine v_cVp C dX9_fits_118 lX9_213 mX9_isTop 68 (by omega) h68 (by decide) rfl (m_isTop l G n ad _ hn h68 h92 hh1 hh2 2) ⟨by decide, by decide⟩ rfl (Nat.le_of_ble_eq_true rfl) ⟨Nat.zero_le _, Nat.zero_le _⟩ (fun r30 hp31 => ?_)
    rw [show (2 : Int32).toInt = 2 by decide] at hp31
    rcases hp31 with ⟨rfl, hp31⟩ | ⟨rfl, hp31⟩
    · refine b_if_ne C 132 dX9_fits_121 (by decide) (show (1 : Int32).toInt = 1 by decide) (fun c32 => ?_) (fun c32 => absurd c32 (by decide))
      refine v_iconst (v := 1) C dX9_fits_132 (by decide) ?_
      refine v_goto C 137 dX9_fits_133 (by decide) ?_
      exact v_ret C dX9_fits_137 rfl rfl (Or.inr ⟨_, _, _, (by first | (exfalso; omega) | (unfold FTs; (repeat first | rw [if_pos (by omega)] | rw [if_neg (by omega)]))), rfl, h68, rfl, (fun _ _ => rfl), h92, fun j h0 h5 => rfl⟩)
    · refine b_if_ne C 132 dX9_fits_121 (by decide) (show (0 : Int32).toInt = 0 by decide) (fun c33 => absurd c33 (by decide)) (fun c33 => ?_)
      refine v_aload_n C 0 dX9_fits_124 rfl rfl ?_
      refine v_iconst (v := 1) C dX9_fits_125 (by decide) ?_
      refine v_cVp C dX9_fits_126 lX9_213 mX9_isTop 68 (by omega) h68 (by decide) rfl (m_isTop l G n ad _ hn h68 h92 hh1 hh2 1) ⟨by decide, by decide⟩ rfl (Nat.le_of_ble_eq_true rfl) ⟨Nat.zero_le _, Nat.zero_le _⟩ (fun r34 hp35 => ?_)
      rw [show (1 : Int32).toInt = 1 by decide] at hp35
      rcases hp35 with ⟨rfl, hp35⟩ | ⟨rfl, hp35⟩
      · refine b_if_eq C 136 dX9_fits_129 (by decide) (show (1 : Int32).toInt = 1 by decide) (fun c36 => absurd c36 (by decide)) (fun c36 => ?_)
        refine v_iconst (v := 1) C dX9_fits_132 (by decide) ?_
        refine v_goto C 137 dX9_fits_133 (by decide) ?_
        exact v_ret C dX9_fits_137 rfl rfl (Or.inr ⟨_, _, _, (by first | (exfalso; omega) | (unfold FTs; (repeat first | rw [if_pos (by omega)] | rw [if_neg (by omega)]))), rfl, h68, rfl, (fun _ _ => rfl), h92, fun j h0 h5 => rfl⟩)
      · refine b_if_eq C 136 dX9_fits_129 (by decide) (show (0 : Int32).toInt = 0 by decide) (fun c37 => ?_) (fun c37 => absurd c37 (by decide))
        refine v_iconst (v := 0) C dX9_fits_136 (by decide) ?_
        exact v_ret C dX9_fits_137 rfl rfl (Or.inl ⟨(by first | (exfalso; omega) | (unfold FTs; (repeat first | rw [if_pos (by omega)] | rw [if_neg (by omega)]))), rfl, rfl⟩)
  · refine v_tableIn (off := 137) C 138 dX9_fits_1 (by omega) (by omega) (by rw [q1v, q1]; rfl) (by decide) ?_
    refine v_aload_n C 0 dX9_fits_138 rfl rfl ?_
    refine v_iconst (v := 2) C dX9_fits_139 (by decide) ?_
    refine v_cVp C dX9_fits_140 lX9_213 mX9_isTop 68 (by omega) h68 (by decide) rfl (m_isTop l G n ad _ hn h68 h92 hh1 hh2 2) ⟨by decide, by decide⟩ rfl (Nat.le_of_ble_eq_true rfl) ⟨Nat.zero_le _, Nat.zero_le _⟩ (fun r38 hp39 => ?_)
    rw [show (2 : Int32).toInt = 2 by decide] at hp39
    rcases hp39 with ⟨rfl, hp39⟩ | ⟨rfl, hp39⟩
    · exact v_ret C dX9_fits_143 rfl rfl (Or.inr ⟨_, _, _, (by first | (exfalso; omega) | (unfold FTs; (repeat first | rw [if_pos (by omega)] | rw [if_neg (by omega)]))), rfl, h68, rfl, (fun _ _ => rfl), h92, fun j h0 h5 => rfl⟩)
    · exact v_ret C dX9_fits_143 rfl rfl (Or.inl ⟨(by first | (exfalso; omega) | (unfold FTs; (repeat first | rw [if_pos (by omega)] | rw [if_neg (by omega)]))), rfl, rfl⟩)
  · refine v_tableIn (off := 143) C 144 dX9_fits_1 (by omega) (by omega) (by rw [q1v, q1]; rfl) (by decide) ?_
    refine v_aload_n C 0 dX9_fits_144 rfl rfl ?_
    refine v_geti (v := im 35) C 68 dX9_fits_145 fX9_203 (by omega) h68 rfl rfl ?_
    refine v_iconst (v := 2) C dX9_fits_148 (by decide) ?_
    refine b_icmp_lt C 185 dX9_fits_149 (by decide) (rfl : Int32.toInt (im 35) = _) (show (2 : Int32).toInt = 2 by decide) (fun c40 => ?_) (fun c40 => ?_)
    · refine v_iconst (v := 0) C dX9_fits_185 (by decide) ?_
      exact v_ret C dX9_fits_186 rfl rfl (Or.inl ⟨(by first | (exfalso; omega) | (unfold FTs; (repeat first | rw [if_pos (by omega)] | rw [if_neg (by omega)]))), rfl, rfl⟩)
    · refine v_aload_n C 0 dX9_fits_152 rfl rfl ?_
      refine v_getr C 68 dX9_fits_153 fX9_97 (by omega) h68 rfl rfl ?_
      refine v_aload_n C 0 dX9_fits_156 rfl rfl ?_
      refine v_geti (v := im 35) C 68 dX9_fits_157 fX9_203 (by omega) h68 rfl rfl ?_
      refine v_iconst (v := 1) C dX9_fits_160 (by decide) ?_
      refine v_isub C dX9_fits_161 ?_
      refine v_top (fun x41 ex41 => ?_)
      have hx41 : x41.toInt = ((im 35).toInt - 1) := by rw [ex41]; exact ti_sub (rfl : Int32.toInt (im 35) = _) (show (1 : Int32).toInt = 1 by decide) (by omega) (by omega)
      refine v_ald (v := kd (((im 35).toInt - 1)).toNat) C 92 dX9_fits_162 (by omega) h92 (ti_in hx41 (by omega) (by omega)) (by rw [ti_cl hx41]) ?_
      refine v_aload_n C 0 dX9_fits_163 rfl rfl ?_
      refine v_getr C 68 dX9_fits_164 fX9_97 (by omega) h68 rfl rfl ?_
      refine v_aload_n C 0 dX9_fits_167 rfl rfl ?_
      refine v_geti (v := im 35) C 68 dX9_fits_168 fX9_203 (by omega) h68 rfl rfl ?_
      refine v_iconst (v := 2) C dX9_fits_171 (by decide) ?_
      refine v_isub C dX9_fits_172 ?_
      refine v_top (fun x42 ex42 => ?_)
      have hx42 : x42.toInt = ((im 35).toInt - 2) := by rw [ex42]; exact ti_sub (rfl : Int32.toInt (im 35) = _) (show (2 : Int32).toInt = 2 by decide) (by omega) (by omega)
      refine v_ald (v := kd (((im 35).toInt - 2)).toNat) C 92 dX9_fits_173 (by omega) h92 (ti_in hx42 (by omega) (by omega)) (by rw [ti_cl hx42]) ?_
      refine b_icmp_ne C 185 dX9_fits_174 (by decide) (rfl : Int32.toInt (kd (((im 35).toInt - 1)).toNat) = _) (rfl : Int32.toInt (kd (((im 35).toInt - 2)).toNat) = _) (fun c43 => ?_) (fun c43 => ?_)
      · refine v_iconst (v := 0) C dX9_fits_185 (by decide) ?_
        exact v_ret C dX9_fits_186 rfl rfl (Or.inl ⟨(by first | (exfalso; omega) | (unfold FTs; (repeat first | rw [if_pos (by omega)] | rw [if_neg (by omega)]))), rfl, rfl⟩)
      · refine v_aload_n C 0 dX9_fits_177 rfl rfl ?_
        refine v_iconst (v := 3) C dX9_fits_178 (by decide) ?_
        refine v_cVp C dX9_fits_179 lX9_213 mX9_isTop 68 (by omega) h68 (by decide) rfl (m_isTop l G n ad _ hn h68 h92 hh1 hh2 3) ⟨by decide, by decide⟩ rfl (Nat.le_of_ble_eq_true rfl) ⟨Nat.zero_le _, Nat.zero_le _⟩ (fun r44 hp45 => ?_)
        rw [show (3 : Int32).toInt = 3 by decide] at hp45
        rcases hp45 with ⟨rfl, hp45⟩ | ⟨rfl, hp45⟩
        · refine b_if_eq C 187 dX9_fits_182 (by decide) (show (1 : Int32).toInt = 1 by decide) (fun c46 => absurd c46 (by decide)) (fun c46 => ?_)
          refine v_iconst (v := 0) C dX9_fits_185 (by decide) ?_
          exact v_ret C dX9_fits_186 rfl rfl (Or.inl ⟨(by first | (exfalso; omega) | (unfold FTs; (repeat first | rw [if_pos (by omega)] | rw [if_neg (by omega)]))), rfl, rfl⟩)
        · refine b_if_eq C 187 dX9_fits_182 (by decide) (show (0 : Int32).toInt = 0 by decide) (fun c47 => ?_) (fun c47 => absurd c47 (by decide))
          refine v_aload_n C 0 dX9_fits_187 rfl rfl ?_
          refine v_dup C dX9_fits_188 rfl ?_
          refine v_geti (v := im 35) C 68 dX9_fits_189 fX9_203 (by omega) h68 rfl rfl ?_
          refine v_iconst (v := 1) C dX9_fits_192 (by decide) ?_
          refine v_isub C dX9_fits_193 ?_
          refine v_top (fun x48 ex48 => ?_)
          have hx48 : x48.toInt = ((im 35).toInt - 1) := by rw [ex48]; exact ti_sub (rfl : Int32.toInt (im 35) = _) (show (1 : Int32).toInt = 1 by decide) (by omega) (by omega)
          refine v_puti C 68 dX9_fits_194 fX9_203 (by omega) h68 rfl rfl rfl rfl (fun E49 hE49_68 oE49 => ?_)
          have hE49_92 := (oE49 92 (by decide)).trans h92
          refine v_aload_n C 0 dX9_fits_197 rfl rfl ?_
          refine v_getr C 68 dX9_fits_198 fX9_97 (by omega) hE49_68 rfl rfl ?_
          refine v_aload_n C 0 dX9_fits_201 rfl rfl ?_
          refine v_geti (v := x48) C 68 dX9_fits_202 fX9_203 (by omega) hE49_68 rfl rfl ?_
          refine v_iconst (v := 1) C dX9_fits_205 (by decide) ?_
          refine v_isub C dX9_fits_206 ?_
          refine v_top (fun x50 ex50 => ?_)
          have hx50 : x50.toInt = (((im 35).toInt - 1) - 1) := by rw [ex50]; exact ti_sub hx48 (show (1 : Int32).toInt = 1 by decide) (by omega) (by omega)
          refine v_iconst (v := 3) C dX9_fits_207 (by decide) ?_
          refine v_ast C 92 dX9_fits_208 (by omega) hE49_92 (ti_in hx50 (by omega) (by omega)) (fun E51 hE51_92 oE51 => ?_)
          rw [ti_cl hx50, show Int.toNat (((im 35).toInt - 1) - 1) = ((im 35).toInt - 2).toNat by omega] at hE51_92
          have hE51_68 := (oE51 68 (by decide)).trans hE49_68
          refine v_iconst (v := 1) C dX9_fits_209 (by decide) ?_
          exact v_ret C dX9_fits_210 rfl rfl (Or.inr ⟨_, _, _, (by first | (exfalso; omega) | (unfold FTs; (repeat first | rw [if_pos (by omega)] | rw [if_neg (by omega)]))), rfl, hE51_68, (show (va_up im 35 x48 35).toInt = _ from hx48), (fun q hq => if_neg hq), hE51_92, fun j h0 h5 => ((oE51 j h5).trans (oE49 j h0))⟩)
  · refine v_tableIn (off := 210) C 211 dX9_fits_1 (by omega) (by omega) (by rw [q1v, q1]; rfl) (by decide) ?_
    refine v_aload_n C 0 dX9_fits_211 rfl rfl ?_
    refine v_geti (v := im 35) C 68 dX9_fits_212 fX9_203 (by omega) h68 rfl rfl ?_
    refine v_iconst (v := 2) C dX9_fits_215 (by decide) ?_
    refine b_icmp_lt C 256 dX9_fits_216 (by decide) (rfl : Int32.toInt (im 35) = _) (show (2 : Int32).toInt = 2 by decide) (fun c52 => ?_) (fun c52 => ?_)
    · refine v_iconst (v := 0) C dX9_fits_256 (by decide) ?_
      exact v_ret C dX9_fits_257 rfl rfl (Or.inl ⟨(by first | (exfalso; omega) | (unfold FTs; (repeat first | rw [if_pos (by omega)] | rw [if_neg (by omega)]))), rfl, rfl⟩)
    · refine v_aload_n C 0 dX9_fits_219 rfl rfl ?_
      refine v_iconst (v := 3) C dX9_fits_220 (by decide) ?_
      refine v_cVp C dX9_fits_221 lX9_213 mX9_isTop 68 (by omega) h68 (by decide) rfl (m_isTop l G n ad _ hn h68 h92 hh1 hh2 3) ⟨by decide, by decide⟩ rfl (Nat.le_of_ble_eq_true rfl) ⟨Nat.zero_le _, Nat.zero_le _⟩ (fun r53 hp54 => ?_)
      rw [show (3 : Int32).toInt = 3 by decide] at hp54
      rcases hp54 with ⟨rfl, hp54⟩ | ⟨rfl, hp54⟩
      · refine b_if_eq C 256 dX9_fits_224 (by decide) (show (1 : Int32).toInt = 1 by decide) (fun c55 => absurd c55 (by decide)) (fun c55 => ?_)
        refine v_aload_n C 0 dX9_fits_227 rfl rfl ?_
        refine v_getr C 68 dX9_fits_228 fX9_97 (by omega) h68 rfl rfl ?_
        refine v_aload_n C 0 dX9_fits_231 rfl rfl ?_
        refine v_geti (v := im 35) C 68 dX9_fits_232 fX9_203 (by omega) h68 rfl rfl ?_
        refine v_iconst (v := 2) C dX9_fits_235 (by decide) ?_
        refine v_isub C dX9_fits_236 ?_
        refine v_top (fun x56 ex56 => ?_)
        have hx56 : x56.toInt = ((im 35).toInt - 2) := by rw [ex56]; exact ti_sub (rfl : Int32.toInt (im 35) = _) (show (2 : Int32).toInt = 2 by decide) (by omega) (by omega)
        refine v_ald (v := kd (((im 35).toInt - 2)).toNat) C 92 dX9_fits_237 (by omega) h92 (ti_in hx56 (by omega) (by omega)) (by rw [ti_cl hx56]) ?_
        refine b_if_eq C 258 dX9_fits_238 (by decide) (rfl : Int32.toInt (kd (((im 35).toInt - 2)).toNat) = _) (fun c57 => ?_) (fun c57 => ?_)
        · refine v_aload_n C 0 dX9_fits_258 rfl rfl ?_
          refine v_dup C dX9_fits_259 rfl ?_
          refine v_geti (v := im 35) C 68 dX9_fits_260 fX9_203 (by omega) h68 rfl rfl ?_
          refine v_iconst (v := 1) C dX9_fits_263 (by decide) ?_
          refine v_isub C dX9_fits_264 ?_
          refine v_top (fun x58 ex58 => ?_)
          have hx58 : x58.toInt = ((im 35).toInt - 1) := by rw [ex58]; exact ti_sub (rfl : Int32.toInt (im 35) = _) (show (1 : Int32).toInt = 1 by decide) (by omega) (by omega)
          refine v_puti C 68 dX9_fits_265 fX9_203 (by omega) h68 rfl rfl rfl rfl (fun E59 hE59_68 oE59 => ?_)
          have hE59_92 := (oE59 92 (by decide)).trans h92
          refine v_iconst (v := 1) C dX9_fits_268 (by decide) ?_
          exact v_ret C dX9_fits_269 rfl rfl (Or.inr ⟨_, _, _, (by first | (exfalso; omega) | (unfold FTs; (repeat first | rw [if_pos (by omega)] | rw [if_neg (by omega)]))), rfl, hE59_68, (show (va_up im 35 x58 35).toInt = _ from hx58), (fun q hq => if_neg hq), hE59_92, fun j h0 h5 => (oE59 j h0)⟩)
        · refine v_aload_n C 0 dX9_fits_241 rfl rfl ?_
          refine v_getr C 68 dX9_fits_242 fX9_97 (by omega) h68 rfl rfl ?_
          refine v_aload_n C 0 dX9_fits_245 rfl rfl ?_
          refine v_geti (v := im 35) C 68 dX9_fits_246 fX9_203 (by omega) h68 rfl rfl ?_
          refine v_iconst (v := 2) C dX9_fits_249 (by decide) ?_
          refine v_isub C dX9_fits_250 ?_
          refine v_top (fun x60 ex60 => ?_)
          have hx60 : x60.toInt = ((im 35).toInt - 2) := by rw [ex60]; exact ti_sub (rfl : Int32.toInt (im 35) = _) (show (2 : Int32).toInt = 2 by decide) (by omega) (by omega)
          refine v_ald (v := kd (((im 35).toInt - 2)).toNat) C 92 dX9_fits_251 (by omega) h92 (ti_in hx60 (by omega) (by omega)) (by rw [ti_cl hx60]) ?_
          refine v_iconst (v := 1) C dX9_fits_252 (by decide) ?_
          refine b_icmp_eq C 258 dX9_fits_253 (by decide) (rfl : Int32.toInt (kd (((im 35).toInt - 2)).toNat) = _) (show (1 : Int32).toInt = 1 by decide) (fun c61 => ?_) (fun c61 => ?_)
          · refine v_aload_n C 0 dX9_fits_258 rfl rfl ?_
            refine v_dup C dX9_fits_259 rfl ?_
            refine v_geti (v := im 35) C 68 dX9_fits_260 fX9_203 (by omega) h68 rfl rfl ?_
            refine v_iconst (v := 1) C dX9_fits_263 (by decide) ?_
            refine v_isub C dX9_fits_264 ?_
            refine v_top (fun x62 ex62 => ?_)
            have hx62 : x62.toInt = ((im 35).toInt - 1) := by rw [ex62]; exact ti_sub (rfl : Int32.toInt (im 35) = _) (show (1 : Int32).toInt = 1 by decide) (by omega) (by omega)
            refine v_puti C 68 dX9_fits_265 fX9_203 (by omega) h68 rfl rfl rfl rfl (fun E63 hE63_68 oE63 => ?_)
            have hE63_92 := (oE63 92 (by decide)).trans h92
            refine v_iconst (v := 1) C dX9_fits_268 (by decide) ?_
            exact v_ret C dX9_fits_269 rfl rfl (Or.inr ⟨_, _, _, (by first | (exfalso; omega) | (unfold FTs; (repeat first | rw [if_pos (by omega)] | rw [if_neg (by omega)]))), rfl, hE63_68, (show (va_up im 35 x62 35).toInt = _ from hx62), (fun q hq => if_neg hq), hE63_92, fun j h0 h5 => (oE63 j h0)⟩)
          · refine v_iconst (v := 0) C dX9_fits_256 (by decide) ?_
            exact v_ret C dX9_fits_257 rfl rfl (Or.inl ⟨(by first | (exfalso; omega) | (unfold FTs; (repeat first | rw [if_pos (by omega)] | rw [if_neg (by omega)]))), rfl, rfl⟩)
      · refine b_if_eq C 256 dX9_fits_224 (by decide) (show (0 : Int32).toInt = 0 by decide) (fun c64 => ?_) (fun c64 => absurd c64 (by decide))
        refine v_iconst (v := 0) C dX9_fits_256 (by decide) ?_
        exact v_ret C dX9_fits_257 rfl rfl (Or.inl ⟨(by first | (exfalso; omega) | (unfold FTs; (repeat first | rw [if_pos (by omega)] | rw [if_neg (by omega)]))), rfl, rfl⟩)
  · refine v_tableIn (off := 269) C 270 dX9_fits_1 (by omega) (by omega) (by rw [q1v, q1]; rfl) (by decide) ?_
    refine v_aload_n C 0 dX9_fits_270 rfl rfl ?_
    refine v_geti (v := im 35) C 68 dX9_fits_271 fX9_203 (by omega) h68 rfl rfl ?_
    refine b_if_le C 299 dX9_fits_274 (by decide) (rfl : Int32.toInt (im 35) = _) (fun c65 => ?_) (fun c65 => ?_)
    · refine v_iconst (v := 0) C dX9_fits_299 (by decide) ?_
      exact v_ret C dX9_fits_300 rfl rfl (Or.inl ⟨(by first | (exfalso; omega) | (unfold FTs; (repeat first | rw [if_pos (by omega)] | rw [if_neg (by omega)]))), rfl, rfl⟩)
    · refine v_aload_n C 0 dX9_fits_277 rfl rfl ?_
      refine v_aload_n C 0 dX9_fits_278 rfl rfl ?_
      refine v_getr C 68 dX9_fits_279 fX9_97 (by omega) h68 rfl rfl ?_
      refine v_aload_n C 0 dX9_fits_282 rfl rfl ?_
      refine v_geti (v := im 35) C 68 dX9_fits_283 fX9_203 (by omega) h68 rfl rfl ?_
      refine v_iconst (v := 1) C dX9_fits_286 (by decide) ?_
      refine v_isub C dX9_fits_287 ?_
      refine v_top (fun x66 ex66 => ?_)
      have hx66 : x66.toInt = ((im 35).toInt - 1) := by rw [ex66]; exact ti_sub (rfl : Int32.toInt (im 35) = _) (show (1 : Int32).toInt = 1 by decide) (by omega) (by omega)
      refine v_ald (v := kd (((im 35).toInt - 1)).toNat) C 92 dX9_fits_288 (by omega) h92 (ti_in hx66 (by omega) (by omega)) (by rw [ti_cl hx66]) ?_
      refine v_cVi C dX9_fits_289 lX9_206 mX9_laid 68 (by omega) h68 (by decide) rfl (m_laid l G n ad _ hn h68 h92 hh1 hh2 (kd (((im 35).toInt - 1)).toNat)) ⟨by decide, by decide⟩ rfl (Nat.le_of_ble_eq_true rfl) ⟨Nat.zero_le _, Nat.zero_le _⟩ (fun r67 E68 hq69 => ?_)
      rcases hq69 with ⟨hc70, rfl, rfl⟩ | ⟨hc70, rfl, z70, hz70, hB70, hD70, hO70⟩
      · refine b_if_eq C 299 dX9_fits_292 (by decide) (show (0 : Int32).toInt = 0 by decide) (fun c71 => ?_) (fun c71 => absurd c71 (by decide))
        refine v_iconst (v := 0) C dX9_fits_299 (by decide) ?_
        exact v_ret C dX9_fits_300 rfl rfl (Or.inl ⟨(by first | (exfalso; omega) | (unfold FTs; (repeat first | rw [if_pos (by omega)] | rw [if_neg (by omega)]))), rfl, rfl⟩)
      · refine b_if_eq C 299 dX9_fits_292 (by decide) (show (1 : Int32).toInt = 1 by decide) (fun c72 => absurd c72 (by decide)) (fun c72 => ?_)
        refine v_iconst (v := 1) C dX9_fits_295 (by decide) ?_
        refine v_goto C 300 dX9_fits_296 (by decide) ?_
        exact v_ret C dX9_fits_300 rfl rfl (Or.inr ⟨_, _, _, (by first | (exfalso; omega) | (unfold FTs; (repeat first | rw [if_pos (by omega)] | rw [if_neg (by omega)]))), rfl, hB70, (show (va_up im 35 z70 35).toInt = _ from hz70), (fun q hq => if_neg hq), hD70, fun j h0 h5 => (hO70 j h0 h5)⟩)
  · refine v_tableOut C 301 dX9_fits_1 (by omega) (by decide) ?_
    refine v_aload_n C 0 dX9_fits_301 rfl rfl ?_
    refine v_geti (v := im 35) C 68 dX9_fits_302 fX9_203 (by omega) h68 rfl rfl ?_
    refine v_iconst (v := 2) C dX9_fits_305 (by decide) ?_
    refine b_icmp_ge C 311 dX9_fits_306 (by decide) (rfl : Int32.toInt (im 35) = _) (show (2 : Int32).toInt = 2 by decide) (fun c73 => ?_) (fun c73 => ?_)
    · refine v_aload_n C 0 dX9_fits_311 rfl rfl ?_
      refine v_getr C 68 dX9_fits_312 fX9_97 (by omega) h68 rfl rfl ?_
      refine v_aload_n C 0 dX9_fits_315 rfl rfl ?_
      refine v_geti (v := im 35) C 68 dX9_fits_316 fX9_203 (by omega) h68 rfl rfl ?_
      refine v_iconst (v := 1) C dX9_fits_319 (by decide) ?_
      refine v_isub C dX9_fits_320 ?_
      refine v_top (fun x74 ex74 => ?_)
      have hx74 : x74.toInt = ((im 35).toInt - 1) := by rw [ex74]; exact ti_sub (rfl : Int32.toInt (im 35) = _) (show (1 : Int32).toInt = 1 by decide) (by omega) (by omega)
      refine v_ald (v := kd (((im 35).toInt - 1)).toNat) C 92 dX9_fits_321 (by omega) h92 (ti_in hx74 (by omega) (by omega)) (by rw [ti_cl hx74]) ?_
      refine v_istore_n (lv' := [(0, .ref (ad 68)), (1, .int op), (2, .int (kd (((im 35).toInt - 1)).toNat))]) C [1, 2, 0] dX9_fits_322 rfl (by decide) rfl ?_
      refine v_aload_n C 0 dX9_fits_323 rfl rfl ?_
      refine v_getr C 68 dX9_fits_324 fX9_97 (by omega) h68 rfl rfl ?_
      refine v_aload_n C 0 dX9_fits_327 rfl rfl ?_
      refine v_geti (v := im 35) C 68 dX9_fits_328 fX9_203 (by omega) h68 rfl rfl ?_
      refine v_iconst (v := 1) C dX9_fits_331 (by decide) ?_
      refine v_isub C dX9_fits_332 ?_
      refine v_top (fun x75 ex75 => ?_)
      have hx75 : x75.toInt = ((im 35).toInt - 1) := by rw [ex75]; exact ti_sub (rfl : Int32.toInt (im 35) = _) (show (1 : Int32).toInt = 1 by decide) (by omega) (by omega)
      refine v_aload_n C 0 dX9_fits_333 rfl rfl ?_
      refine v_getr C 68 dX9_fits_334 fX9_97 (by omega) h68 rfl rfl ?_
      refine v_aload_n C 0 dX9_fits_337 rfl rfl ?_
      refine v_geti (v := im 35) C 68 dX9_fits_338 fX9_203 (by omega) h68 rfl rfl ?_
      refine v_iconst (v := 2) C dX9_fits_341 (by decide) ?_
      refine v_isub C dX9_fits_342 ?_
      refine v_top (fun x76 ex76 => ?_)
      have hx76 : x76.toInt = ((im 35).toInt - 2) := by rw [ex76]; exact ti_sub (rfl : Int32.toInt (im 35) = _) (show (2 : Int32).toInt = 2 by decide) (by omega) (by omega)
      refine v_ald (v := kd (((im 35).toInt - 2)).toNat) C 92 dX9_fits_343 (by omega) h92 (ti_in hx76 (by omega) (by omega)) (by rw [ti_cl hx76]) ?_
      refine v_ast C 92 dX9_fits_344 (by omega) h92 (ti_in hx75 (by omega) (by omega)) (fun E77 hE77_92 oE77 => ?_)
      rw [ti_cl hx75] at hE77_92
      have hE77_68 := (oE77 68 (by decide)).trans h68
      refine v_aload_n C 0 dX9_fits_345 rfl rfl ?_
      refine v_getr C 68 dX9_fits_346 fX9_97 (by omega) hE77_68 rfl rfl ?_
      refine v_aload_n C 0 dX9_fits_349 rfl rfl ?_
      refine v_geti (v := im 35) C 68 dX9_fits_350 fX9_203 (by omega) hE77_68 rfl rfl ?_
      refine v_iconst (v := 2) C dX9_fits_353 (by decide) ?_
      refine v_isub C dX9_fits_354 ?_
      refine v_top (fun x78 ex78 => ?_)
      have hx78 : x78.toInt = ((im 35).toInt - 2) := by rw [ex78]; exact ti_sub (rfl : Int32.toInt (im 35) = _) (show (2 : Int32).toInt = 2 by decide) (by omega) (by omega)
      refine v_iload_n C 2 dX9_fits_355 rfl rfl ?_
      refine v_ast C 92 dX9_fits_356 (by omega) hE77_92 (ti_in hx78 (by omega) (by omega)) (fun E79 hE79_92 oE79 => ?_)
      rw [ti_cl hx78] at hE79_92
      have hE79_68 := (oE79 68 (by decide)).trans hE77_68
      refine v_iconst (v := 1) C dX9_fits_357 (by decide) ?_
      exact v_ret C dX9_fits_358 rfl rfl (Or.inr ⟨_, _, _, (by first | (exfalso; omega) | (unfold FTs; (repeat first | rw [if_pos (by omega)] | rw [if_neg (by omega)]))), rfl, hE79_68, rfl, (fun _ _ => rfl), hE79_92, fun j h0 h5 => ((oE79 j h5).trans (oE77 j h5))⟩)
    · refine v_iconst (v := 0) C dX9_fits_309 (by decide) ?_
      exact v_ret C dX9_fits_310 rfl rfl (Or.inl ⟨(by first | (exfalso; omega) | (unfold FTs; (repeat first | rw [if_pos (by omega)] | rw [if_neg (by omega)]))), rfl, rfl⟩)

set_option maxRecDepth 20000 in
theorem lp_mixX {X : Mx} {l : Launch} {G : Gl} {A : Nat → Prop} {Q : State → Prop} {n : Nat} {ad : Nat → Nat} (C : Cx X l G A "OddHoursModel" cX9_mixOf 2 (some .int) (rmx 3 65 0 0)) (hn : 98 ≤ n) (E0 : Nat → va_E) {im0 fo : Nat → Int32} (hs2 : (im0 32).toInt ≤ 10) (hpo : ∀ j : Nat, (j : Int) < (im0 32).toInt → 0 ≤ (fo j).toInt ∧ (fo j).toInt ≤ 11) (h1 : E0 89 = aI G 10 fo)
    (k28 : ∀ (k : Nat) (E : Nat → va_E) (im kd : Nat → Int32) (x1 : Int32) (h : Int) (Kc : Nat → Int32), (k : Int) < (im0 32).toInt → x1.toInt = (k : Int) → E 68 = ob 9 (rX9 ad) im → (∀ q, q ≠ 35 → im q = im0 q) → (im 35).toInt = h → RSf fo k = some (h, Kc) → simK h kd Kc → E 92 = aI G 8 kd → (∀ j, j ≠ 68 → j ≠ 92 → E j = E0 j) → RSf fo (k + 1) = none → V X G A 2 Q n ad 0 0 E 28 [(0, .ref (ad 68)), (1, .int x1)] []) (k36 : ∀ (k : Nat) (E : Nat → va_E) (im kd : Nat → Int32) (x1 : Int32) (h : Int) (Kc : Nat → Int32), (k : Int) = (im0 32).toInt → E 68 = ob 9 (rX9 ad) im → (∀ q, q ≠ 35 → im q = im0 q) → (im 35).toInt = h → RSf fo k = some (h, Kc) → simK h kd Kc → E 92 = aI G 8 kd → (∀ j, j ≠ 68 → j ≠ 92 → E j = E0 j) → V X G A 2 Q n ad 0 0 E 36 [(0, .ref (ad 68)), (1, .int x1)] []) :
    ∀ (t k : Nat) (E : Nat → va_E) (im kd : Nat → Int32) (x1 : Int32) (h : Int) (Kc : Nat → Int32), (k : Int) + (t : Int) = (im0 32).toInt → x1.toInt = (k : Int) → E 68 = ob 9 (rX9 ad) im → (∀ q, q ≠ 35 → im q = im0 q) → (im 35).toInt = h → RSf fo k = some (h, Kc) → simK h kd Kc → E 92 = aI G 8 kd → (∀ j, j ≠ 68 → j ≠ 92 → E j = E0 j) → V X G A 2 Q n ad 0 0 E 7 [(0, .ref (ad 68)), (1, .int x1)] [] := by
  intro t
  induction t with
  | zero =>
    intro k E im kd x1 h Kc hk hx1 h68 hq0 h5h hRS hsim h92 hfr
    have h89 := (hfr 89 (by decide) (by decide)).trans h1
    refine v_iload_n C 1 dX9_mixOf_7 rfl rfl ?_
    refine v_aload_n C 0 dX9_mixOf_8 rfl rfl ?_
    refine v_geti (v := im 32) C 68 dX9_mixOf_9 fX9_200 (by omega) h68 rfl rfl ?_
    refine b_icmp_ge C 36 dX9_mixOf_12 (by decide) hx1 (show (im 32).toInt = (im0 32).toInt by rw [hq0 32 (by decide)]) (fun c31 => ?_) (fun c31 => by exfalso; omega)
    exact k36 k E im kd x1 h Kc (by omega) h68 hq0 h5h hRS hsim h92 hfr
  | succ t ih =>
    intro k E im kd x1 h Kc hk hx1 h68 hq0 h5h hRS hsim h92 hfr
    have h89 := (hfr 89 (by decide) (by decide)).trans h1
    refine v_iload_n C 1 dX9_mixOf_7 rfl rfl ?_
    refine v_aload_n C 0 dX9_mixOf_8 rfl rfl ?_
    refine v_geti (v := im 32) C 68 dX9_mixOf_9 fX9_200 (by omega) h68 rfl rfl ?_
    refine b_icmp_ge C 36 dX9_mixOf_12 (by decide) hx1 (show (im 32).toInt = (im0 32).toInt by rw [hq0 32 (by decide)]) (fun c31 => by exfalso; omega) (fun c31 => ?_)
    refine v_aload_n C 0 dX9_mixOf_15 rfl rfl ?_
    refine v_aload_n C 0 dX9_mixOf_16 rfl rfl ?_
    refine v_getr C 68 dX9_mixOf_17 fX9_88 (by omega) h68 rfl rfl ?_
    refine v_iload_n C 1 dX9_mixOf_20 rfl rfl ?_
    refine v_ald (v := fo k) C 89 dX9_mixOf_21 (by omega) h89 (ti_in hx1 (by omega) (by omega)) (by rw [ti_cl hx1, show Int.toNat (k : Int) = k by omega]) ?_
    have hb58 := (RS_ok k _ hRS).1
    dsimp only at hb58
    refine v_cVi C dX9_mixOf_22 lX9_216 mX9_fits 68 (by omega) h68 (by decide) rfl (m_fits l G n ad _ hn h68 h92 (by omega) (by omega) (fo k) (hpo k (by omega))) ⟨by decide, by decide⟩ rfl (Nat.le_of_ble_eq_true rfl) ⟨Nat.zero_le _, Nat.zero_le _⟩ (fun r32 E33 hq34 => ?_)
    rw [h5h] at hq34
    rcases FTs_sim (op := (fo k).toInt) hsim with ⟨hs1, hs2⟩ | ⟨g1, K1, K2, hs1, hs2, hs3⟩
    · rcases hq34 with ⟨-, rfl, rfl⟩ | ⟨p1, p2, p3, hbad, -⟩
      rotate_left
      · rw [hs1] at hbad; cases hbad
      refine b_if_ne C 30 dX9_mixOf_25 (by decide) (show (0 : Int32).toInt = 0 by decide) (fun c35 => absurd c35 (by decide)) (fun c35 => ?_)
      exact k28 k E im kd x1 h Kc (by omega) hx1 h68 hq0 h5h hRS hsim h92 hfr (by rw [RS_s hRS]; exact hs2)
    · rcases hq34 with ⟨hbad, -⟩ | ⟨p1, p2, im1, hgood, rfl, hB1, h51, hq1, hD1, hO1⟩
      · rw [hs1] at hbad; cases hbad
      rw [hs1] at hgood
      injection hgood with hgood
      injection hgood with e1 e2
      subst e1 e2
      have hRS1 : RSf fo (k + 1) = some (g1, K2) := by rw [RS_s hRS]; exact hs2
      refine b_if_ne C 30 dX9_mixOf_25 (by decide) (show (1 : Int32).toInt = 1 by decide) (fun c36 => ?_) (fun c36 => absurd c36 (by decide))
      obtain ⟨x37, ex37⟩ : ∃ y : Int32, y = x1 + 1 := ⟨_, rfl⟩
      have hx37 : x37.toInt = ((k : Int) + 1) := by rw [ex37]; exact ti_add hx1 (show (1 : Int32).toInt = 1 by decide) (by omega) (by omega)
      refine v_iinc (v := x37) (lv' := [(0, .ref (ad 68)), (1, .int x37)]) C 1 [1, 0] dX9_mixOf_30 rfl (ex37.symm) (by decide) rfl ?_
      refine v_goto C 7 dX9_mixOf_33 (by decide) ?_
      exact ih (k + 1) _ _ _ x37 g1 K2 (by omega) (by rw [hx37]; omega) hB1 (fun q hq => (hq1 q hq).trans (hq0 q hq)) h51 hRS1 hs3 hD1 (fun j a c => ((hO1 j a c)).trans (hfr j a c))

set_option maxRecDepth 20000 in
theorem m_mixOf (l : Launch) (G : Gl) (n : Nat) (ad : Nat → Nat) (E : Nat → va_E) (hn : 98 ≤ n) {im kd fo : Nat → Int32} (h68 : E 68 = ob 9 (rX9 ad) im) (h92 : E 92 = aI G 8 kd) (h89 : E 89 = aI G 10 fo) (hs1 : 0 ≤ (im 32).toInt) (hs2 : (im 32).toInt ≤ 10) (hpo : ∀ j : Nat, (j : Int) < (im 32).toInt → 0 ≤ (fo j).toInt ∧ (fo j).toInt ≤ 11)  : CtI l G yX9_mixOf cX9_mixOf 2 .int 3 65 n ad E [.ref (ad 68)] (fun r E' => r.toInt = MXf fo (im 32).toInt.toNat ∧ ∃ im1 kd1 : Nat → Int32, E' 68 = ob 9 (rX9 ad) im1 ∧ (∀ q, q ≠ 35 → im1 q = im q) ∧ 0 ≤ (im1 35).toInt ∧ (im1 35).toInt ≤ 8 ∧ E' 92 = aI G 8 kd1 ∧ (∀ K : Nat → Int32, RSf fo (im 32).toInt.toNat = some (1, K) → kd1 0 = K 0) ∧ ∀ j, j ≠ 68 → j ≠ 92 → E' j = E j) := by
  refine CtI.of (by decide) (Nat.le_of_ble_eq_true rfl) (fun X A C => ?_)
  refine v_sub (lv' := [(0, .ref (ad 68))]) [0] rfl ?_
  refine v_aload_n C 0 dX9_mixOf_0 rfl rfl ?_
  refine v_iconst (v := 0) C dX9_mixOf_1 (by decide) ?_
  refine v_puti C 68 dX9_mixOf_2 fX9_203 (by omega) h68 rfl rfl rfl rfl (fun E1 hE1_68 oE1 => ?_)
  have hE1_92 := (oE1 92 (by decide)).trans h92
  refine v_iconst (v := 0) C dX9_mixOf_5 (by decide) ?_
  refine v_istore_n (lv' := [(0, .ref (ad 68)), (1, .int 0)]) C [1, 0] dX9_mixOf_6 rfl (by decide) rfl ?_
  obtain ⟨T, hT⟩ : ∃ T : Nat, (T : Int) = (im 32).toInt := ⟨(im 32).toInt.toNat, by omega⟩
  have hT2 : (im 32).toInt.toNat = T := by omega
  refine lp_mixX C hn E1 (im0 := im) hs2 hpo ((oE1 89 (by decide)).trans h89) (fun k9 E9 im9 kd9 x9 h9 K9 hk9 hx9 hB9 hq9 h59h hRS9 hsim9 h59 hf9 hbad => ?_) (fun k9 E9 im9 kd9 x9 h9 K9 hk9 hB9 hq9 h59h hRS9 hsim9 h59 hf9 => ?_) T 0 E1 _ kd 0 0 (fun _ => 0) (by omega) (show (0 : Int32).toInt = 0 by decide) hE1_68 (fun q hq => if_neg hq) (show (0 : Int32).toInt = 0 by decide) rfl (fun j hj => absurd hj (by omega)) hE1_92 (fun j _ _ => rfl)
  · refine v_iload_n C 1 dX9_mixOf_28 rfl rfl ?_
    have hok9 := (RS_ok k9 _ hRS9).1
    dsimp only at hok9
    exact v_ret C dX9_mixOf_29 rfl rfl ⟨(by rw [hx9, hT2]; unfold MXf; rw [MIS_bad hRS9 hbad (by omega), if_neg (by omega)]), im9, kd9, hB9, hq9, by omega, by omega, h59, (fun KK hK => by rw [hT2, RS_n hbad T (by omega)] at hK; cases hK), fun j a c => (hf9 j a c).trans (oE1 j a)⟩
  · refine v_aload_n C 0 dX9_mixOf_36 rfl rfl ?_
    refine v_geti (v := im9 35) C 68 dX9_mixOf_37 fX9_203 (by omega) hB9 rfl rfl ?_
    refine v_iconst (v := 1) C dX9_mixOf_40 (by decide) ?_
    refine b_icmp_ne C 49 dX9_mixOf_41 (by decide) h59h (show (1 : Int32).toInt = 1 by decide) (fun c2 => ?_) (fun c2 => ?_)
    · refine v_aload_n C 0 dX9_mixOf_49 rfl rfl ?_
      refine v_geti (v := im9 32) C 68 dX9_mixOf_50 fX9_200 (by omega) hB9 rfl rfl ?_
      have hok9 := (RS_ok k9 _ hRS9).1
      dsimp only at hok9
      exact v_ret C dX9_mixOf_53 rfl rfl ⟨(by rw [(show (im9 32).toInt = (im 32).toInt by rw [hq9 32 (by decide)]), hT2, ← (show k9 = T by omega)]; unfold MXf; rw [MIS_end hRS9, if_neg (show ¬ h9 = 1 by omega), if_neg (by omega)]; omega), im9, kd9, hB9, hq9, by omega, by omega, h59, (fun KK hK => by rw [hT2, ← (show k9 = T by omega), hRS9] at hK; injection hK with hK; injection hK with q1 q2; subst q1 q2; exact hsim9 0 (by decide)), fun j a c => (hf9 j a c).trans (oE1 j a)⟩
    · refine v_bipush (v := (-6)) C dX9_mixOf_44 (by decide) ?_
      refine v_goto C 53 dX9_mixOf_46 (by decide) ?_
      have hok9 := (RS_ok k9 _ hRS9).1
      dsimp only at hok9
      exact v_ret C dX9_mixOf_53 rfl rfl ⟨(by rw [show (-6 : Int32).toInt = -6 by decide, hT2, ← (show k9 = T by omega)]; unfold MXf; rw [MIS_end hRS9, if_pos (show h9 = 1 by omega), if_pos rfl]), im9, kd9, hB9, hq9, by omega, by omega, h59, (fun KK hK => by rw [hT2, ← (show k9 = T by omega), hRS9] at hK; injection hK with hK; injection hK with q1 q2; subst q1 q2; exact hsim9 0 (by decide)), fun j a c => (hf9 j a c).trans (oE1 j a)⟩

