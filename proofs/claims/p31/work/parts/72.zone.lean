theorem cal_b {ic md : Nat → Int32} (h : CalP ic md) : (2 ≤ (ic 4).toInt ∧ (ic 4).toInt ≤ 50) ∧ (2 ≤ (ic 5).toInt ∧ (ic 5).toInt ≤ 100) ∧ (0 ≤ (ic 6).toInt ∧ (ic 6).toInt < 12) ∧ (2 ≤ (ic 7).toInt ∧ (ic 7).toInt ≤ 10) ∧ (0 ≤ (ic 8).toInt ∧ (ic 8).toInt ≤ 9) := h.2
theorem cal_y {ic md : Nat → Int32} (h : CalP ic md) : 0 ≤ YSf md (ic 4).toInt (ic 5).toInt 100 ∧ YSf md (ic 4).toInt (ic 5).toInt 100 ≤ 48100 := by
  have := YS_b (a := (ic 4).toInt) (b := (ic 5).toInt) h.1 100
  omega
theorem ti_tdb {x y : Int32} {b : Int} (hy : y.toInt = b) (hb : 0 < b) : -(2147483648 / b) ≤ (x / y).toInt ∧ (x / y).toInt ≤ 2147483648 / b := by
  rw [ti_tdiv rfl hy hb]
  have h1 := ti_lo x
  have h2 := ti_hi x
  by_cases h : 0 ≤ x.toInt
  · rw [Int.tdiv_eq_ediv_of_nonneg h]
    have h3 : 0 ≤ x.toInt / b := Int.ediv_nonneg h (by omega)
    have h4 : x.toInt / b ≤ 2147483648 / b := Int.ediv_le_ediv hb (by omega)
    omega
  · obtain ⟨z, hz⟩ : ∃ z : Int, x.toInt = -z := ⟨-x.toInt, by omega⟩
    rw [hz, Int.neg_tdiv, Int.tdiv_eq_ediv_of_nonneg (by omega)]
    have h3 : 0 ≤ z / b := Int.ediv_nonneg (by omega) (by omega)
    have h4 : z / b ≤ 2147483648 / b := Int.ediv_le_ediv hb (by omega)
    omega
theorem rest_b {r x y : Int} (h : r = if 0 < y then x % y else 0) : 0 ≤ r ∧ (0 < y → r < y) := by
  by_cases hy : 0 < y
  · rw [if_pos hy] at h
    have h1 := Int.emod_nonneg x (show y ≠ 0 by omega)
    have h2 := Int.emod_lt_of_pos x hy
    omega
  · rw [if_neg hy] at h
    omega
theorem nb_01 {v : Int32} (h : v = 0 ∨ v = 1) : narrow .boolean (.int v) = .int v := by
  rcases h with rfl | rfl <;> rfl
set_option maxRecDepth 20000 in
theorem t_X6_tell (l : Launch) (G : Gl) (ad : Nat → Nat) {k : Nat} {E0 E : Nat → va_E} (hJ : J8 G ad k E0 E) (b : Nat) (hb : ZC k b) (x : Int32) (y : Int32) : CtI l G yX6_tell cX6_tell 3 .int 0 0 (98 + 9 * k) ad E [.ref (ad b), .int x, .int y] (fun r E' => ((0 : Int) ≤ r.toInt ∧ r.toInt ≤ 7) ∧ J8 G ad k E0 E') := by
  refine CtI.of (by decide) (Nat.le_of_ble_eq_true rfl) (fun X A C => ?_)
  refine v_sub (lv' := [(0, .ref (ad b)), (1, .int x), (2, .int y)]) [0, 1, 2] rfl ?_
  have hk5 := hJ.1
  have hbn := hb.n
  refine v_aload_n C 0 dX6_tell_0 rfl rfl ?_
  obtain ⟨i1, hE1, hb1⟩ := hJ.2.2.getO (b := b) (by omega) hb.t0
  refine v_geti (v := i1 8) C b dX6_tell_1 fX6_37 (by omega) hE1 rfl rfl ?_
  have hi1_8 : (0 : Int) ≤ (i1 8).toInt ∧ (i1 8).toInt ≤ 8 := hb1 8
  refine v_bipush (v := 8) C dX6_tell_4 (by decide) ?_
  refine b_icmp_lt C 12 dX6_tell_6 (by decide) (rfl : Int32.toInt (i1 8) = _) (show (8 : Int32).toInt = 8 by decide) (fun c2 => ?_) (fun c2 => ?_)
  · refine v_aload_n C 0 dX6_tell_12 rfl rfl ?_
    refine v_getr C b dX6_tell_13 fX6_9 (by omega) hE1 rfl rfl ?_
    refine v_aload_n C 0 dX6_tell_16 rfl rfl ?_
    refine v_geti (v := i1 8) C b dX6_tell_17 fX6_37 (by omega) hE1 rfl rfl ?_
    refine v_iload_n C 1 dX6_tell_20 rfl rfl ?_
    obtain ⟨f3, hE3, hb3⟩ := hJ.2.2.getA (b := (b + 1)) (by omega) hb.t1
    refine v_ast C (b + 1) dX6_tell_21 (by omega) hE3 (ti_in (rfl : Int32.toInt (i1 8) = _) (by omega) (by omega)) (fun E4 hE4_b1 oE4 => ?_)
    rw [ti_cl (rfl : Int32.toInt (i1 8) = _)] at hE4_b1
    have hE4_b := (oE4 b (by omega)).trans hE1
    have hJ5 := hJ.with (hJ.2.2.setA hb.t1 (by unfold P8; omega) hb3 (ti_any x) hE4_b1 oE4)
    refine v_aload_n C 0 dX6_tell_22 rfl rfl ?_
    refine v_getr C b dX6_tell_23 fX6_15 (by omega) hE4_b rfl rfl ?_
    refine v_aload_n C 0 dX6_tell_26 rfl rfl ?_
    refine v_geti (v := i1 8) C b dX6_tell_27 fX6_37 (by omega) hE4_b rfl rfl ?_
    refine v_iload_n C 2 dX6_tell_30 rfl rfl ?_
    obtain ⟨f6, hE6, hb6⟩ := hJ5.2.2.getA (b := (b + 2)) (by omega) hb.t2
    refine v_ast C (b + 2) dX6_tell_31 (by omega) hE6 (ti_in (rfl : Int32.toInt (i1 8) = _) (by omega) (by omega)) (fun E7 hE7_b2 oE7 => ?_)
    rw [ti_cl (rfl : Int32.toInt (i1 8) = _)] at hE7_b2
    have hE7_b := (oE7 b (by omega)).trans hE4_b
    have hJ8 := hJ5.with (hJ5.2.2.setA hb.t2 (by unfold P8; omega) hb6 (ti_any y) hE7_b2 oE7)
    refine v_aload_n C 0 dX6_tell_32 rfl rfl ?_
    refine v_dup C dX6_tell_33 rfl ?_
    refine v_geti (v := i1 8) C b dX6_tell_34 fX6_37 (by omega) hE7_b rfl rfl ?_
    refine v_iconst (v := 1) C dX6_tell_37 (by decide) ?_
    refine v_iadd C dX6_tell_38 ?_
    refine v_top (fun x9 ex9 => ?_)
    have hx9 : x9.toInt = ((i1 8).toInt + 1) := by rw [ex9]; exact ti_add (rfl : Int32.toInt (i1 8) = _) (show (1 : Int32).toInt = 1 by decide) (by omega) (by omega)
    refine v_puti C b dX6_tell_39 fX6_37 (by omega) hE7_b rfl rfl rfl rfl (fun E10 hE10_b oE10 => ?_)
    obtain ⟨hJ11, hb12⟩ := hJ8.2.2.setO hb.t0 (by unfold P8; omega) hb1 (k := 8) (show (0 : Int) ≤ Int32.toInt x9 ∧ Int32.toInt x9 ≤ 8 by have := hx9; omega) hE10_b oE10
    have hJ11 := hJ8.with hJ11
    refine v_aload_n C 0 dX6_tell_42 rfl rfl ?_
    refine v_geti (v := x9) C b dX6_tell_43 fX6_37 (by omega) hE10_b rfl rfl ?_
    refine v_iconst (v := 1) C dX6_tell_46 (by decide) ?_
    refine v_isub C dX6_tell_47 ?_
    refine v_top (fun x13 ex13 => ?_)
    have hx13 : x13.toInt = (((i1 8).toInt + 1) - 1) := by rw [ex13]; exact ti_sub hx9 (show (1 : Int32).toInt = 1 by decide) (by omega) (by omega)
    exact v_ret C dX6_tell_48 rfl rfl ⟨(show (0 : Int) ≤ Int32.toInt x13 ∧ Int32.toInt x13 ≤ 7 by have := hx13; omega), hJ11⟩
  · refine v_bipush (v := 7) C dX6_tell_9 (by decide) ?_
    exact v_ret C dX6_tell_11 rfl rfl ⟨(show (0 : Int) ≤ Int32.toInt 7 ∧ Int32.toInt 7 ≤ 7 by decide), hJ⟩

set_option maxRecDepth 20000 in
theorem t_X6_take (l : Launch) (G : Gl) (ad : Nat → Nat) {k : Nat} {E0 E : Nat → va_E} (hJ : J8 G ad k E0 E) (b : Nat) (hb : ZC k b) (x : Int32) (y : Int32) : CtV l G yX6_take cX6_take 5 0 0 (98 + 9 * k) ad E [.ref (ad b), .int x, .int y] (fun E' => J8 G ad k E0 E') := by
  refine CtV.of (by decide) (Nat.le_of_ble_eq_true rfl) (fun X A C => ?_)
  refine v_sub (lv' := [(0, .ref (ad b)), (1, .int x), (2, .int y)]) [0, 1, 2] rfl ?_
  have hk5 := hJ.1
  have hbn := hb.n
  refine v_iload_n C 1 dX6_take_0 rfl rfl ?_
  refine v_aload_n C 0 dX6_take_1 rfl rfl ?_
  obtain ⟨i1, hE1, hb1⟩ := hJ.2.2.getO (b := b) (by omega) hb.t0
  refine v_getr C b dX6_take_2 fX6_33 (by omega) hE1 rfl rfl ?_
  refine v_aload_n C 0 dX6_take_5 rfl rfl ?_
  refine v_geti (v := i1 10) C b dX6_take_6 fX6_47 (by omega) hE1 rfl rfl ?_
  have hi1_10 : (0 : Int) ≤ (i1 10).toInt ∧ (i1 10).toInt ≤ 800 := hb1 10
  obtain ⟨f2, hE2, hb2⟩ := hJ.2.2.getA (b := (b + 8)) (by omega) hb.t8
  refine v_ald (v := f2 ((i1 10).toInt).toNat) C (b + 8) dX6_take_9 (by omega) hE2 (ti_in (rfl : Int32.toInt (i1 10) = _) (by omega) (by omega)) (by rw [ti_cl (rfl : Int32.toInt (i1 10) = _)]) ?_
  refine v_top (fun x3 _ => ?_)
  refine v_isub C dX6_take_10 ?_
  refine v_top (fun x4 _ => ?_)
  refine v_istore_n (lv' := [(0, .ref (ad b)), (1, .int x), (2, .int y), (3, .int x4)]) C [1, 2, 3, 0] dX6_take_11 rfl (by decide) rfl ?_
  refine v_aload_n C 0 dX6_take_12 rfl rfl ?_
  refine v_geti (v := i1 10) C b dX6_take_13 fX6_47 (by omega) hE1 rfl rfl ?_
  refine b_if_eq C 32 dX6_take_16 (by decide) (rfl : Int32.toInt (i1 10) = _) (fun c5 => ?_) (fun c5 => ?_)
  · refine v_iconst (v := 1) C dX6_take_32 (by decide) ?_
    refine v_goto C 37 dX6_take_33 (by decide) ?_
    refine v_istore (lv' := [(0, .ref (ad b)), (1, .int x), (2, .int y), (3, .int x4), (4, .int 1)]) C [1, 2, 3, 4, 0] dX6_take_37 (by decide) rfl ?_
    refine v_iload_n C 3 dX6_take_39 rfl rfl ?_
    refine b_if_lt C 58 dX6_take_40 (by decide) (rfl : Int32.toInt x4 = _) (fun c6 => ?_) (fun c6 => ?_)
    · exact v_vret C dX6_take_58 rfl hJ
    · refine v_iload C 4 dX6_take_43 rfl ?_
      refine b_if_eq C 58 dX6_take_45 (by decide) (show (1 : Int32).toInt = 1 by decide) (fun c7 => absurd c7 (by decide)) (fun c7 => ?_)
      refine v_aload_n C 0 dX6_take_48 rfl rfl ?_
      refine v_geti (v := i1 10) C b dX6_take_49 fX6_47 (by omega) hE1 rfl rfl ?_
      refine v_sipush (v := 800) C dX6_take_52 (by decide) ?_
      refine b_icmp_lt C 59 dX6_take_55 (by decide) (rfl : Int32.toInt (i1 10) = _) (show (800 : Int32).toInt = 800 by decide) (fun c8 => ?_) (fun c8 => ?_)
      · refine v_aload_n C 0 dX6_take_59 rfl rfl ?_
        refine v_dup C dX6_take_60 rfl ?_
        refine v_geti (v := i1 10) C b dX6_take_61 fX6_47 (by omega) hE1 rfl rfl ?_
        refine v_iconst (v := 1) C dX6_take_64 (by decide) ?_
        refine v_iadd C dX6_take_65 ?_
        refine v_top (fun x9 ex9 => ?_)
        have hx9 : x9.toInt = ((i1 10).toInt + 1) := by rw [ex9]; exact ti_add (rfl : Int32.toInt (i1 10) = _) (show (1 : Int32).toInt = 1 by decide) (by omega) (by omega)
        refine v_puti C b dX6_take_66 fX6_47 (by omega) hE1 rfl rfl rfl rfl (fun E10 hE10_b oE10 => ?_)
        have hE10_b8 := (oE10 (b + 8) (by omega)).trans hE2
        obtain ⟨hJ11, hb12⟩ := hJ.2.2.setO hb.t0 (by unfold P8; omega) hb1 (k := 10) (show (0 : Int) ≤ Int32.toInt x9 ∧ Int32.toInt x9 ≤ 800 by have := hx9; omega) hE10_b oE10
        have hJ11 := hJ.with hJ11
        refine v_aload_n C 0 dX6_take_69 rfl rfl ?_
        refine v_getr C b dX6_take_70 fX6_27 (by omega) hE10_b rfl rfl ?_
        refine v_aload_n C 0 dX6_take_73 rfl rfl ?_
        refine v_geti (v := x9) C b dX6_take_74 fX6_47 (by omega) hE10_b rfl rfl ?_
        refine v_iload_n C 3 dX6_take_77 rfl rfl ?_
        obtain ⟨f13, hE13, hb13⟩ := hJ11.2.2.getA (b := (b + 6)) (by omega) hb.t6
        refine v_ast C (b + 6) dX6_take_78 (by omega) hE13 (ti_in hx9 (by omega) (by omega)) (fun E14 hE14_b6 oE14 => ?_)
        rw [ti_cl hx9] at hE14_b6
        have hE14_b := (oE14 b (by omega)).trans hE10_b
        have hE14_b8 := (oE14 (b + 8) (by omega)).trans hE10_b8
        have hJ15 := hJ11.with (hJ11.2.2.setA hb.t6 (by unfold P8; omega) hb13 (ti_any x4) hE14_b6 oE14)
        refine v_aload_n C 0 dX6_take_79 rfl rfl ?_
        refine v_getr C b dX6_take_80 fX6_33 (by omega) hE14_b rfl rfl ?_
        refine v_aload_n C 0 dX6_take_83 rfl rfl ?_
        refine v_geti (v := x9) C b dX6_take_84 fX6_47 (by omega) hE14_b rfl rfl ?_
        refine v_iload_n C 2 dX6_take_87 rfl rfl ?_
        refine v_ast C (b + 8) dX6_take_88 (by omega) hE14_b8 (ti_in hx9 (by omega) (by omega)) (fun E16 hE16_b8 oE16 => ?_)
        rw [ti_cl hx9] at hE16_b8
        have hE16_b := (oE16 b (by omega)).trans hE14_b
        have hJ17 := hJ15.with (hJ15.2.2.setA hb.t8 (by unfold P8; omega) hb2 (ti_any y) hE16_b8 oE16)
        exact v_vret C dX6_take_89 rfl hJ17
      · exact v_vret C dX6_take_58 rfl hJ
  · refine v_iload_n C 3 dX6_take_19 rfl rfl ?_
    refine v_aload_n C 0 dX6_take_20 rfl rfl ?_
    refine v_getr C b dX6_take_21 fX6_27 (by omega) hE1 rfl rfl ?_
    refine v_aload_n C 0 dX6_take_24 rfl rfl ?_
    refine v_geti (v := i1 10) C b dX6_take_25 fX6_47 (by omega) hE1 rfl rfl ?_
    obtain ⟨f18, hE18, hb18⟩ := hJ.2.2.getA (b := (b + 6)) (by omega) hb.t6
    refine v_ald (v := f18 ((i1 10).toInt).toNat) C (b + 6) dX6_take_28 (by omega) hE18 (ti_in (rfl : Int32.toInt (i1 10) = _) (by omega) (by omega)) (by rw [ti_cl (rfl : Int32.toInt (i1 10) = _)]) ?_
    refine v_top (fun x19 _ => ?_)
    refine b_icmp_le C 36 dX6_take_29 (by decide) (rfl : Int32.toInt x4 = _) (rfl : Int32.toInt x19 = _) (fun c20 => ?_) (fun c20 => ?_)
    · refine v_iconst (v := 0) C dX6_take_36 (by decide) ?_
      refine v_istore (lv' := [(0, .ref (ad b)), (1, .int x), (2, .int y), (3, .int x4), (4, .int 0)]) C [1, 2, 3, 4, 0] dX6_take_37 (by decide) rfl ?_
      refine v_iload_n C 3 dX6_take_39 rfl rfl ?_
      refine b_if_lt C 58 dX6_take_40 (by decide) (rfl : Int32.toInt x4 = _) (fun c21 => ?_) (fun c21 => ?_)
      · exact v_vret C dX6_take_58 rfl hJ
      · refine v_iload C 4 dX6_take_43 rfl ?_
        refine b_if_eq C 58 dX6_take_45 (by decide) (show (0 : Int32).toInt = 0 by decide) (fun c22 => ?_) (fun c22 => absurd c22 (by decide))
        exact v_vret C dX6_take_58 rfl hJ
    · refine v_iconst (v := 1) C dX6_take_32 (by decide) ?_
      refine v_goto C 37 dX6_take_33 (by decide) ?_
      refine v_istore (lv' := [(0, .ref (ad b)), (1, .int x), (2, .int y), (3, .int x4), (4, .int 1)]) C [1, 2, 3, 4, 0] dX6_take_37 (by decide) rfl ?_
      refine v_iload_n C 3 dX6_take_39 rfl rfl ?_
      refine b_if_lt C 58 dX6_take_40 (by decide) (rfl : Int32.toInt x4 = _) (fun c23 => ?_) (fun c23 => ?_)
      · exact v_vret C dX6_take_58 rfl hJ
      · refine v_iload C 4 dX6_take_43 rfl ?_
        refine b_if_eq C 58 dX6_take_45 (by decide) (show (1 : Int32).toInt = 1 by decide) (fun c24 => absurd c24 (by decide)) (fun c24 => ?_)
        refine v_aload_n C 0 dX6_take_48 rfl rfl ?_
        refine v_geti (v := i1 10) C b dX6_take_49 fX6_47 (by omega) hE1 rfl rfl ?_
        refine v_sipush (v := 800) C dX6_take_52 (by decide) ?_
        refine b_icmp_lt C 59 dX6_take_55 (by decide) (rfl : Int32.toInt (i1 10) = _) (show (800 : Int32).toInt = 800 by decide) (fun c25 => ?_) (fun c25 => ?_)
        · refine v_aload_n C 0 dX6_take_59 rfl rfl ?_
          refine v_dup C dX6_take_60 rfl ?_
          refine v_geti (v := i1 10) C b dX6_take_61 fX6_47 (by omega) hE1 rfl rfl ?_
          refine v_iconst (v := 1) C dX6_take_64 (by decide) ?_
          refine v_iadd C dX6_take_65 ?_
          refine v_top (fun x26 ex26 => ?_)
          have hx26 : x26.toInt = ((i1 10).toInt + 1) := by rw [ex26]; exact ti_add (rfl : Int32.toInt (i1 10) = _) (show (1 : Int32).toInt = 1 by decide) (by omega) (by omega)
          refine v_puti C b dX6_take_66 fX6_47 (by omega) hE1 rfl rfl rfl rfl (fun E27 hE27_b oE27 => ?_)
          have hE27_b8 := (oE27 (b + 8) (by omega)).trans hE2
          have hE27_b6 := (oE27 (b + 6) (by omega)).trans hE18
          obtain ⟨hJ28, hb29⟩ := hJ.2.2.setO hb.t0 (by unfold P8; omega) hb1 (k := 10) (show (0 : Int) ≤ Int32.toInt x26 ∧ Int32.toInt x26 ≤ 800 by have := hx26; omega) hE27_b oE27
          have hJ28 := hJ.with hJ28
          refine v_aload_n C 0 dX6_take_69 rfl rfl ?_
          refine v_getr C b dX6_take_70 fX6_27 (by omega) hE27_b rfl rfl ?_
          refine v_aload_n C 0 dX6_take_73 rfl rfl ?_
          refine v_geti (v := x26) C b dX6_take_74 fX6_47 (by omega) hE27_b rfl rfl ?_
          refine v_iload_n C 3 dX6_take_77 rfl rfl ?_
          refine v_ast C (b + 6) dX6_take_78 (by omega) hE27_b6 (ti_in hx26 (by omega) (by omega)) (fun E30 hE30_b6 oE30 => ?_)
          rw [ti_cl hx26] at hE30_b6
          have hE30_b := (oE30 b (by omega)).trans hE27_b
          have hE30_b8 := (oE30 (b + 8) (by omega)).trans hE27_b8
          have hJ31 := hJ28.with (hJ28.2.2.setA hb.t6 (by unfold P8; omega) hb18 (ti_any x4) hE30_b6 oE30)
          refine v_aload_n C 0 dX6_take_79 rfl rfl ?_
          refine v_getr C b dX6_take_80 fX6_33 (by omega) hE30_b rfl rfl ?_
          refine v_aload_n C 0 dX6_take_83 rfl rfl ?_
          refine v_geti (v := x26) C b dX6_take_84 fX6_47 (by omega) hE30_b rfl rfl ?_
          refine v_iload_n C 2 dX6_take_87 rfl rfl ?_
          refine v_ast C (b + 8) dX6_take_88 (by omega) hE30_b8 (ti_in hx26 (by omega) (by omega)) (fun E32 hE32_b8 oE32 => ?_)
          rw [ti_cl hx26] at hE32_b8
          have hE32_b := (oE32 b (by omega)).trans hE30_b
          have hJ33 := hJ31.with (hJ31.2.2.setA hb.t8 (by unfold P8; omega) hb2 (ti_any y) hE32_b8 oE32)
          exact v_vret C dX6_take_89 rfl hJ33
        · exact v_vret C dX6_take_58 rfl hJ

set_option maxRecDepth 20000 in
theorem t_X6_sortYear (l : Launch) (G : Gl) (ad : Nat → Nat) {k : Nat} {E0 E : Nat → va_E} (hJ : J8 G ad k E0 E) (b : Nat) (hb : ZC k b) (y : Int32) (hy : (0 : Int) ≤ y.toInt ∧ y.toInt ≤ 99) : CtI l G yX6_sortYear cX6_sortYear 8 .int 0 0 (98 + 9 * k) ad E [.ref (ad b), .int y] (fun r E' => ((0 : Int) ≤ r.toInt ∧ r.toInt ≤ 8) ∧ J8 G ad k E0 E') := by
  refine CtI.of (by decide) (Nat.le_of_ble_eq_true rfl) (fun X A C => ?_)
  refine v_sub (lv' := [(0, .ref (ad b)), (1, .int y)]) [0, 1] rfl ?_
  have hk5 := hJ.1
  have hbn := hb.n
  refine v_iconst (v := 0) C dX6_sortYear_0 (by decide) ?_
  refine v_istore_n (lv' := [(0, .ref (ad b)), (1, .int y), (2, .int 0)]) C [1, 2, 0] dX6_sortYear_1 rfl (by decide) rfl ?_
  refine v_iconst (v := 0) C dX6_sortYear_2 (by decide) ?_
  refine v_istore_n (lv' := [(0, .ref (ad b)), (1, .int y), (2, .int 0), (3, .int 0)]) C [1, 2, 3, 0] dX6_sortYear_3 rfl (by decide) rfl ?_
  have LP1 : ∀ (t : Nat) (E6 : Nat → va_E) (y2 : Int32) (y3 : Int32) (y4 : Int32), J8 G ad k E0 E6 → ((0 : Int) ≤ y2.toInt ∧ y2.toInt ≤ 99) → ((0 : Int) ≤ y3.toInt ∧ y3.toInt ≤ 8) → ((0 : Int) ≤ y4.toInt ∧ y4.toInt ≤ 8) → (y3.toInt ≤ y4.toInt) → 9 - y4.toInt < (t : Int) → V X G A 8 (QI X G A (98 + 9 * k) ad (fun r E' => ((0 : Int) ≤ r.toInt ∧ r.toInt ≤ 8) ∧ J8 G ad k E0 E')) (98 + 9 * k) ad 0 0 E6 4 [(0, .ref (ad b)), (1, .int y2), (2, .int y3), (3, .int y4)] [] := by
    intro t10
    induction t10 with
    | zero => intro E6 y2 y3 y4 hJ7 hy2 hy3 hy4 hq5 hm9; exfalso; omega
    | succ t10 ih8 =>
      intro E6 y2 y3 y4 hJ7 hy2 hy3 hy4 hq5 hm9
      refine v_iload_n C 3 dX6_sortYear_4 rfl rfl ?_
      refine v_aload_n C 0 dX6_sortYear_5 rfl rfl ?_
      obtain ⟨i11, hE11, hb11⟩ := hJ7.2.2.getO (b := b) (by omega) hb.t0
      refine v_geti (v := i11 9) C b dX6_sortYear_6 fX6_41 (by omega) hE11 rfl rfl ?_
      have hi11_9 : (0 : Int) ≤ (i11 9).toInt ∧ (i11 9).toInt ≤ 8 := hb11 9
      refine b_icmp_ge C 171 dX6_sortYear_9 (by decide) (rfl : Int32.toInt y4 = _) (rfl : Int32.toInt (i11 9) = _) (fun c12 => ?_) (fun c12 => ?_)
      · refine v_iload_n C 2 dX6_sortYear_171 rfl rfl ?_
        exact v_ret C dX6_sortYear_172 rfl rfl ⟨(show (0 : Int) ≤ Int32.toInt y3 ∧ Int32.toInt y3 ≤ 8 by omega), hJ7⟩
      · refine v_aload_n C 0 dX6_sortYear_12 rfl rfl ?_
        refine v_getr C b dX6_sortYear_13 fX6_18 (by omega) hE11 rfl rfl ?_
        refine v_iload_n C 3 dX6_sortYear_16 rfl rfl ?_
        refine v_bipush (v := 100) C dX6_sortYear_17 (by decide) ?_
        refine v_imul C dX6_sortYear_19 ?_
        refine v_top (fun x13 ex13 => ?_)
        have hx13 : x13.toInt = (y4.toInt * 100) := by rw [ex13]; exact ti_mul (rfl : Int32.toInt y4 = _) (show (100 : Int32).toInt = 100 by decide) (by omega) (by omega)
        refine v_iload_n C 1 dX6_sortYear_20 rfl rfl ?_
        refine v_iadd C dX6_sortYear_21 ?_
        refine v_top (fun x14 ex14 => ?_)
        have hx14 : x14.toInt = ((y4.toInt * 100) + y2.toInt) := by rw [ex14]; exact ti_add hx13 (rfl : Int32.toInt y2 = _) (by omega) (by omega)
        obtain ⟨f15, hE15, hb15⟩ := hJ7.2.2.getA (b := (b + 3)) (by omega) hb.t3
        refine v_ald (v := f15 (((y4.toInt * 100) + y2.toInt)).toNat) C (b + 3) dX6_sortYear_22 (by omega) hE15 (ti_in hx14 (by omega) (by omega)) (by rw [ti_cl hx14]) ?_
        refine v_top (fun x16 _ => ?_)
        refine v_istore (lv' := [(0, .ref (ad b)), (1, .int y2), (2, .int y3), (3, .int y4), (4, .int x16)]) C [1, 2, 3, 4, 0] dX6_sortYear_23 (by decide) rfl ?_
        refine v_iload C 4 dX6_sortYear_25 rfl ?_
        refine v_iconst (v := (-1)) C dX6_sortYear_27 (by decide) ?_
        refine b_icmp_ne C 34 dX6_sortYear_28 (by decide) (rfl : Int32.toInt x16 = _) (show ((-1) : Int32).toInt = (-1) by decide) (fun c17 => ?_) (fun c17 => ?_)
        · refine v_iload_n C 2 dX6_sortYear_34 rfl rfl ?_
          refine v_istore (lv' := [(0, .ref (ad b)), (1, .int y2), (2, .int y3), (3, .int y4), (4, .int x16), (5, .int y3)]) C [1, 2, 3, 4, 5, 0] dX6_sortYear_35 (by decide) rfl ?_
          have LP18 : ∀ (t : Nat) (E21 : Nat → va_E) (y19 : Int32), J8 G ad k E0 E21 → ((0 : Int) ≤ y19.toInt ∧ y19.toInt ≤ 7) → (y19.toInt ≤ y3.toInt) → y19.toInt < (t : Int) → V X G A 8 (QI X G A (98 + 9 * k) ad (fun r E' => ((0 : Int) ≤ r.toInt ∧ r.toInt ≤ 8) ∧ J8 G ad k E0 E')) (98 + 9 * k) ad 0 0 E21 37 [(0, .ref (ad b)), (1, .int y2), (2, .int y3), (3, .int y4), (4, .int x16), (5, .int y19)] [] := by
            intro t25
            induction t25 with
            | zero => intro E21 y19 hJ22 hy19 hq20 hm24; exfalso; omega
            | succ t25 ih23 =>
              intro E21 y19 hJ22 hy19 hq20 hm24
              refine v_iload C 5 dX6_sortYear_37 rfl ?_
              refine b_if_le C 62 dX6_sortYear_39 (by decide) (rfl : Int32.toInt y19 = _) (fun c26 => ?_) (fun c26 => ?_)
              · have JN27 : ∀ (E30 : Nat → va_E) (y28 : Int32), J8 G ad k E0 E30 → ((0 : Int) ≤ y28.toInt ∧ y28.toInt ≤ 8) → (y28.toInt ≤ y4.toInt + 1) → V X G A 8 (QI X G A (98 + 9 * k) ad (fun r E' => ((0 : Int) ≤ r.toInt ∧ r.toInt ≤ 8) ∧ J8 G ad k E0 E')) (98 + 9 * k) ad 0 0 E30 143 [(0, .ref (ad b)), (1, .int y2), (2, .int y28), (3, .int y4), (4, .int x16), (5, .int y19)] [] := by
                  intro E30 y28 hJ31 hy28 hq29
                  refine v_aload_n C 0 dX6_sortYear_143 rfl rfl ?_
                  obtain ⟨i32, hE32, hb32⟩ := hJ31.2.2.getO (b := b) (by omega) hb.t0
                  refine v_getr C b dX6_sortYear_144 fX6_21 (by omega) hE32 rfl rfl ?_
                  refine v_iload C 5 dX6_sortYear_147 rfl ?_
                  refine v_iload C 4 dX6_sortYear_149 rfl ?_
                  obtain ⟨f33, hE33, hb33⟩ := hJ31.2.2.getA (b := (b + 4)) (by omega) hb.t4
                  refine v_ast C (b + 4) dX6_sortYear_151 (by omega) hE33 (ti_in (rfl : Int32.toInt y19 = _) (by omega) (by omega)) (fun E34 hE34_b4 oE34 => ?_)
                  rw [ti_cl (rfl : Int32.toInt y19 = _)] at hE34_b4
                  have hE34_b := (oE34 b (by omega)).trans hE32
                  have hJ35 := hJ31.with (hJ31.2.2.setA hb.t4 (by unfold P8; omega) hb33 (ti_any x16) hE34_b4 oE34)
                  refine v_aload_n C 0 dX6_sortYear_152 rfl rfl ?_
                  refine v_getr C b dX6_sortYear_153 fX6_24 (by omega) hE34_b rfl rfl ?_
                  refine v_iload C 5 dX6_sortYear_156 rfl ?_
                  refine v_aload_n C 0 dX6_sortYear_158 rfl rfl ?_
                  refine v_getr C b dX6_sortYear_159 fX6_15 (by omega) hE34_b rfl rfl ?_
                  refine v_iload_n C 3 dX6_sortYear_162 rfl rfl ?_
                  obtain ⟨f36, hE36, hb36⟩ := hJ35.2.2.getA (b := (b + 2)) (by omega) hb.t2
                  refine v_ald (v := f36 (y4.toInt).toNat) C (b + 2) dX6_sortYear_163 (by omega) hE36 (ti_in (rfl : Int32.toInt y4 = _) (by omega) (by omega)) (by rw [ti_cl (rfl : Int32.toInt y4 = _)]) ?_
                  refine v_top (fun x37 _ => ?_)
                  obtain ⟨f38, hE38, hb38⟩ := hJ35.2.2.getA (b := (b + 5)) (by omega) hb.t5
                  refine v_ast C (b + 5) dX6_sortYear_164 (by omega) hE38 (ti_in (rfl : Int32.toInt y19 = _) (by omega) (by omega)) (fun E39 hE39_b5 oE39 => ?_)
                  rw [ti_cl (rfl : Int32.toInt y19 = _)] at hE39_b5
                  have hE39_b := (oE39 b (by omega)).trans hE34_b
                  have hE39_b2 := (oE39 (b + 2) (by omega)).trans hE36
                  have hJ40 := hJ35.with (hJ35.2.2.setA hb.t5 (by unfold P8; omega) hb38 (ti_any x37) hE39_b5 oE39)
                  obtain ⟨x41, ex41⟩ : ∃ y : Int32, y = y4 + 1 := ⟨_, rfl⟩
                  have hx41 : x41.toInt = (y4.toInt + 1) := by rw [ex41]; exact ti_add (rfl : Int32.toInt y4 = _) (show (1 : Int32).toInt = 1 by decide) (by omega) (by omega)
                  refine v_iinc (v := x41) (lv' := [(0, .ref (ad b)), (1, .int y2), (2, .int y28), (3, .int x41), (4, .int x16), (5, .int y19)]) C 3 [1, 2, 3, 0, 4, 5] dX6_sortYear_165 rfl (ex41.symm) (by decide) rfl ?_
                  refine v_goto C 4 dX6_sortYear_168 (by decide) ?_
                  refine v_sub (lv' := [(0, .ref (ad b)), (1, .int y2), (2, .int y28), (3, .int x41)]) [0, 1, 2, 3] rfl ?_
                  exact ih8 _ y2 y28 x41 hJ40 (by have := hx41; omega) (by have := hx41; omega) (by have := hx41; omega) (by have := hx41; omega) (by have := hx41; omega)
                refine v_iload C 5 dX6_sortYear_62 rfl ?_
                refine v_iload_n C 2 dX6_sortYear_64 rfl rfl ?_
                refine b_icmp_ge C 84 dX6_sortYear_65 (by decide) (rfl : Int32.toInt y19 = _) (rfl : Int32.toInt y3 = _) (fun c42 => ?_) (fun c42 => ?_)
                · refine v_iconst (v := 0) C dX6_sortYear_84 (by decide) ?_
                  refine v_istore (lv' := [(0, .ref (ad b)), (1, .int y2), (2, .int y3), (3, .int y4), (4, .int x16), (5, .int y19), (6, .int 0)]) C [1, 2, 3, 4, 5, 6, 0] dX6_sortYear_85 (by decide) rfl ?_
                  refine v_iload C 6 dX6_sortYear_87 rfl ?_
                  refine b_if_ne C 143 dX6_sortYear_89 (by decide) (show (0 : Int32).toInt = 0 by decide) (fun c43 => absurd c43 (by decide)) (fun c43 => ?_)
                  refine v_iload_n C 2 dX6_sortYear_92 rfl rfl ?_
                  refine v_istore (lv' := [(0, .ref (ad b)), (1, .int y2), (2, .int y3), (3, .int y4), (4, .int x16), (5, .int y19), (6, .int 0), (7, .int y3)]) C [1, 2, 3, 4, 5, 6, 7, 0] dX6_sortYear_93 (by decide) rfl ?_
                  have LP44 : ∀ (t : Nat) (E47 : Nat → va_E) (y45 : Int32), J8 G ad k E0 E47 → ((0 : Int) ≤ y45.toInt ∧ y45.toInt ≤ 7) → (y45.toInt ≤ y3.toInt) → y45.toInt < (t : Int) → V X G A 8 (QI X G A (98 + 9 * k) ad (fun r E' => ((0 : Int) ≤ r.toInt ∧ r.toInt ≤ 8) ∧ J8 G ad k E0 E')) (98 + 9 * k) ad 0 0 E47 95 [(0, .ref (ad b)), (1, .int y2), (2, .int y3), (3, .int y4), (4, .int x16), (5, .int y19), (7, .int y45)] [] := by
                    intro t51
                    induction t51 with
                    | zero => intro E47 y45 hJ48 hy45 hq46 hm50; exfalso; omega
                    | succ t51 ih49 =>
                      intro E47 y45 hJ48 hy45 hq46 hm50
                      refine v_iload C 6 dX6_sortYear_95 rfl ?_
                      refine v_iload C 5 dX6_sortYear_97 rfl ?_
                      refine b_icmp_le C 140 dX6_sortYear_99 (by decide) (rfl : Int32.toInt y45 = _) (rfl : Int32.toInt y19 = _) (fun c52 => ?_) (fun c52 => ?_)
                      · obtain ⟨x53, ex53⟩ : ∃ y : Int32, y = y3 + 1 := ⟨_, rfl⟩
                        have hx53 : x53.toInt = (y3.toInt + 1) := by rw [ex53]; exact ti_add (rfl : Int32.toInt y3 = _) (show (1 : Int32).toInt = 1 by decide) (by omega) (by omega)
                        refine v_iinc (v := x53) (lv' := [(0, .ref (ad b)), (1, .int y2), (2, .int x53), (3, .int y4), (4, .int x16), (5, .int y19), (7, .int y45)]) C 2 [1, 2, 0, 3, 4, 5, 6] dX6_sortYear_140 rfl (ex53.symm) (by decide) rfl ?_
                        refine v_sub (lv' := [(0, .ref (ad b)), (1, .int y2), (2, .int x53), (3, .int y4), (4, .int x16), (5, .int y19)]) [0, 1, 2, 3, 4, 5] rfl ?_
                        exact JN27 _ x53 hJ48 (by have := hx53; omega) (by have := hx53; omega)
                      · refine v_aload_n C 0 dX6_sortYear_102 rfl rfl ?_
                        obtain ⟨i54, hE54, hb54⟩ := hJ48.2.2.getO (b := b) (by omega) hb.t0
                        refine v_getr C b dX6_sortYear_103 fX6_21 (by omega) hE54 rfl rfl ?_
                        refine v_iload C 6 dX6_sortYear_106 rfl ?_
                        refine v_aload_n C 0 dX6_sortYear_108 rfl rfl ?_
                        refine v_getr C b dX6_sortYear_109 fX6_21 (by omega) hE54 rfl rfl ?_
                        refine v_iload C 6 dX6_sortYear_112 rfl ?_
                        refine v_iconst (v := 1) C dX6_sortYear_114 (by decide) ?_
                        refine v_isub C dX6_sortYear_115 ?_
                        refine v_top (fun x55 ex55 => ?_)
                        have hx55 : x55.toInt = (y45.toInt - 1) := by rw [ex55]; exact ti_sub (rfl : Int32.toInt y45 = _) (show (1 : Int32).toInt = 1 by decide) (by omega) (by omega)
                        obtain ⟨f56, hE56, hb56⟩ := hJ48.2.2.getA (b := (b + 4)) (by omega) hb.t4
                        refine v_ald (v := f56 ((y45.toInt - 1)).toNat) C (b + 4) dX6_sortYear_116 (by omega) hE56 (ti_in hx55 (by omega) (by omega)) (by rw [ti_cl hx55]) ?_
                        refine v_top (fun x57 _ => ?_)
                        refine v_ast C (b + 4) dX6_sortYear_117 (by omega) hE56 (ti_in (rfl : Int32.toInt y45 = _) (by omega) (by omega)) (fun E58 hE58_b4 oE58 => ?_)
                        rw [ti_cl (rfl : Int32.toInt y45 = _)] at hE58_b4
                        have hE58_b := (oE58 b (by omega)).trans hE54
                        have hJ59 := hJ48.with (hJ48.2.2.setA hb.t4 (by unfold P8; omega) hb56 (ti_any x57) hE58_b4 oE58)
                        refine v_aload_n C 0 dX6_sortYear_118 rfl rfl ?_
                        refine v_getr C b dX6_sortYear_119 fX6_24 (by omega) hE58_b rfl rfl ?_
                        refine v_iload C 6 dX6_sortYear_122 rfl ?_
                        refine v_aload_n C 0 dX6_sortYear_124 rfl rfl ?_
                        refine v_getr C b dX6_sortYear_125 fX6_24 (by omega) hE58_b rfl rfl ?_
                        refine v_iload C 6 dX6_sortYear_128 rfl ?_
                        refine v_iconst (v := 1) C dX6_sortYear_130 (by decide) ?_
                        refine v_isub C dX6_sortYear_131 ?_
                        refine v_top (fun x60 ex60 => ?_)
                        have hx60 : x60.toInt = (y45.toInt - 1) := by rw [ex60]; exact ti_sub (rfl : Int32.toInt y45 = _) (show (1 : Int32).toInt = 1 by decide) (by omega) (by omega)
                        obtain ⟨f61, hE61, hb61⟩ := hJ59.2.2.getA (b := (b + 5)) (by omega) hb.t5
                        refine v_ald (v := f61 ((y45.toInt - 1)).toNat) C (b + 5) dX6_sortYear_132 (by omega) hE61 (ti_in hx60 (by omega) (by omega)) (by rw [ti_cl hx60]) ?_
                        refine v_top (fun x62 _ => ?_)
                        refine v_ast C (b + 5) dX6_sortYear_133 (by omega) hE61 (ti_in (rfl : Int32.toInt y45 = _) (by omega) (by omega)) (fun E63 hE63_b5 oE63 => ?_)
                        rw [ti_cl (rfl : Int32.toInt y45 = _)] at hE63_b5
                        have hE63_b := (oE63 b (by omega)).trans hE58_b
                        have hJ64 := hJ59.with (hJ59.2.2.setA hb.t5 (by unfold P8; omega) hb61 (ti_any x62) hE63_b5 oE63)
                        obtain ⟨x65, ex65⟩ : ∃ y : Int32, y = y45 + (-1) := ⟨_, rfl⟩
                        have hx65 : x65.toInt = (y45.toInt + (-1)) := by rw [ex65]; exact ti_add (rfl : Int32.toInt y45 = _) (show ((-1) : Int32).toInt = (-1) by decide) (by omega) (by omega)
                        refine v_iinc (v := x65) (lv' := [(0, .ref (ad b)), (1, .int y2), (2, .int y3), (3, .int y4), (4, .int x16), (5, .int y19), (7, .int x65)]) C 6 [1, 2, 3, 4, 5, 6, 0] dX6_sortYear_134 rfl (ex65.symm) (by decide) rfl ?_
                        refine v_goto C 95 dX6_sortYear_137 (by decide) ?_
                        exact ih49 _ x65 hJ64 (by have := hx65; omega) (by have := hx65; omega) (by have := hx65; omega)
                  refine v_sub (lv' := [(0, .ref (ad b)), (1, .int y2), (2, .int y3), (3, .int y4), (4, .int x16), (5, .int y19), (7, .int y3)]) [0, 1, 2, 3, 4, 5, 7] rfl ?_
                  exact LP44 100000 _ y3 hJ22 (by omega) (by omega) (by omega)
                · refine v_aload_n C 0 dX6_sortYear_68 rfl rfl ?_
                  obtain ⟨i66, hE66, hb66⟩ := hJ22.2.2.getO (b := b) (by omega) hb.t0
                  refine v_getr C b dX6_sortYear_69 fX6_21 (by omega) hE66 rfl rfl ?_
                  refine v_iload C 5 dX6_sortYear_72 rfl ?_
                  obtain ⟨f67, hE67, hb67⟩ := hJ22.2.2.getA (b := (b + 4)) (by omega) hb.t4
                  refine v_ald (v := f67 (y19.toInt).toNat) C (b + 4) dX6_sortYear_74 (by omega) hE67 (ti_in (rfl : Int32.toInt y19 = _) (by omega) (by omega)) (by rw [ti_cl (rfl : Int32.toInt y19 = _)]) ?_
                  refine v_top (fun x68 _ => ?_)
                  refine v_iload C 4 dX6_sortYear_75 rfl ?_
                  refine b_icmp_ne C 84 dX6_sortYear_77 (by decide) (rfl : Int32.toInt x68 = _) (rfl : Int32.toInt x16 = _) (fun c69 => ?_) (fun c69 => ?_)
                  · refine v_iconst (v := 0) C dX6_sortYear_84 (by decide) ?_
                    refine v_istore (lv' := [(0, .ref (ad b)), (1, .int y2), (2, .int y3), (3, .int y4), (4, .int x16), (5, .int y19), (6, .int 0)]) C [1, 2, 3, 4, 5, 6, 0] dX6_sortYear_85 (by decide) rfl ?_
                    refine v_iload C 6 dX6_sortYear_87 rfl ?_
                    refine b_if_ne C 143 dX6_sortYear_89 (by decide) (show (0 : Int32).toInt = 0 by decide) (fun c70 => absurd c70 (by decide)) (fun c70 => ?_)
                    refine v_iload_n C 2 dX6_sortYear_92 rfl rfl ?_
                    refine v_istore (lv' := [(0, .ref (ad b)), (1, .int y2), (2, .int y3), (3, .int y4), (4, .int x16), (5, .int y19), (6, .int 0), (7, .int y3)]) C [1, 2, 3, 4, 5, 6, 7, 0] dX6_sortYear_93 (by decide) rfl ?_
                    have LP71 : ∀ (t : Nat) (E74 : Nat → va_E) (y72 : Int32), J8 G ad k E0 E74 → ((0 : Int) ≤ y72.toInt ∧ y72.toInt ≤ 7) → (y72.toInt ≤ y3.toInt) → y72.toInt < (t : Int) → V X G A 8 (QI X G A (98 + 9 * k) ad (fun r E' => ((0 : Int) ≤ r.toInt ∧ r.toInt ≤ 8) ∧ J8 G ad k E0 E')) (98 + 9 * k) ad 0 0 E74 95 [(0, .ref (ad b)), (1, .int y2), (2, .int y3), (3, .int y4), (4, .int x16), (5, .int y19), (7, .int y72)] [] := by
                      intro t78
                      induction t78 with
                      | zero => intro E74 y72 hJ75 hy72 hq73 hm77; exfalso; omega
                      | succ t78 ih76 =>
                        intro E74 y72 hJ75 hy72 hq73 hm77
                        refine v_iload C 6 dX6_sortYear_95 rfl ?_
                        refine v_iload C 5 dX6_sortYear_97 rfl ?_
                        refine b_icmp_le C 140 dX6_sortYear_99 (by decide) (rfl : Int32.toInt y72 = _) (rfl : Int32.toInt y19 = _) (fun c79 => ?_) (fun c79 => ?_)
                        · obtain ⟨x80, ex80⟩ : ∃ y : Int32, y = y3 + 1 := ⟨_, rfl⟩
                          have hx80 : x80.toInt = (y3.toInt + 1) := by rw [ex80]; exact ti_add (rfl : Int32.toInt y3 = _) (show (1 : Int32).toInt = 1 by decide) (by omega) (by omega)
                          refine v_iinc (v := x80) (lv' := [(0, .ref (ad b)), (1, .int y2), (2, .int x80), (3, .int y4), (4, .int x16), (5, .int y19), (7, .int y72)]) C 2 [1, 2, 0, 3, 4, 5, 6] dX6_sortYear_140 rfl (ex80.symm) (by decide) rfl ?_
                          refine v_sub (lv' := [(0, .ref (ad b)), (1, .int y2), (2, .int x80), (3, .int y4), (4, .int x16), (5, .int y19)]) [0, 1, 2, 3, 4, 5] rfl ?_
                          exact JN27 _ x80 hJ75 (by have := hx80; omega) (by have := hx80; omega)
                        · refine v_aload_n C 0 dX6_sortYear_102 rfl rfl ?_
                          obtain ⟨i81, hE81, hb81⟩ := hJ75.2.2.getO (b := b) (by omega) hb.t0
                          refine v_getr C b dX6_sortYear_103 fX6_21 (by omega) hE81 rfl rfl ?_
                          refine v_iload C 6 dX6_sortYear_106 rfl ?_
                          refine v_aload_n C 0 dX6_sortYear_108 rfl rfl ?_
                          refine v_getr C b dX6_sortYear_109 fX6_21 (by omega) hE81 rfl rfl ?_
                          refine v_iload C 6 dX6_sortYear_112 rfl ?_
                          refine v_iconst (v := 1) C dX6_sortYear_114 (by decide) ?_
                          refine v_isub C dX6_sortYear_115 ?_
                          refine v_top (fun x82 ex82 => ?_)
                          have hx82 : x82.toInt = (y72.toInt - 1) := by rw [ex82]; exact ti_sub (rfl : Int32.toInt y72 = _) (show (1 : Int32).toInt = 1 by decide) (by omega) (by omega)
                          obtain ⟨f83, hE83, hb83⟩ := hJ75.2.2.getA (b := (b + 4)) (by omega) hb.t4
                          refine v_ald (v := f83 ((y72.toInt - 1)).toNat) C (b + 4) dX6_sortYear_116 (by omega) hE83 (ti_in hx82 (by omega) (by omega)) (by rw [ti_cl hx82]) ?_
                          refine v_top (fun x84 _ => ?_)
                          refine v_ast C (b + 4) dX6_sortYear_117 (by omega) hE83 (ti_in (rfl : Int32.toInt y72 = _) (by omega) (by omega)) (fun E85 hE85_b4 oE85 => ?_)
                          rw [ti_cl (rfl : Int32.toInt y72 = _)] at hE85_b4
                          have hE85_b := (oE85 b (by omega)).trans hE81
                          have hJ86 := hJ75.with (hJ75.2.2.setA hb.t4 (by unfold P8; omega) hb83 (ti_any x84) hE85_b4 oE85)
                          refine v_aload_n C 0 dX6_sortYear_118 rfl rfl ?_
                          refine v_getr C b dX6_sortYear_119 fX6_24 (by omega) hE85_b rfl rfl ?_
                          refine v_iload C 6 dX6_sortYear_122 rfl ?_
                          refine v_aload_n C 0 dX6_sortYear_124 rfl rfl ?_
                          refine v_getr C b dX6_sortYear_125 fX6_24 (by omega) hE85_b rfl rfl ?_
                          refine v_iload C 6 dX6_sortYear_128 rfl ?_
                          refine v_iconst (v := 1) C dX6_sortYear_130 (by decide) ?_
                          refine v_isub C dX6_sortYear_131 ?_
                          refine v_top (fun x87 ex87 => ?_)
                          have hx87 : x87.toInt = (y72.toInt - 1) := by rw [ex87]; exact ti_sub (rfl : Int32.toInt y72 = _) (show (1 : Int32).toInt = 1 by decide) (by omega) (by omega)
                          obtain ⟨f88, hE88, hb88⟩ := hJ86.2.2.getA (b := (b + 5)) (by omega) hb.t5
                          refine v_ald (v := f88 ((y72.toInt - 1)).toNat) C (b + 5) dX6_sortYear_132 (by omega) hE88 (ti_in hx87 (by omega) (by omega)) (by rw [ti_cl hx87]) ?_
                          refine v_top (fun x89 _ => ?_)
                          refine v_ast C (b + 5) dX6_sortYear_133 (by omega) hE88 (ti_in (rfl : Int32.toInt y72 = _) (by omega) (by omega)) (fun E90 hE90_b5 oE90 => ?_)
                          rw [ti_cl (rfl : Int32.toInt y72 = _)] at hE90_b5
                          have hE90_b := (oE90 b (by omega)).trans hE85_b
                          have hJ91 := hJ86.with (hJ86.2.2.setA hb.t5 (by unfold P8; omega) hb88 (ti_any x89) hE90_b5 oE90)
                          obtain ⟨x92, ex92⟩ : ∃ y : Int32, y = y72 + (-1) := ⟨_, rfl⟩
                          have hx92 : x92.toInt = (y72.toInt + (-1)) := by rw [ex92]; exact ti_add (rfl : Int32.toInt y72 = _) (show ((-1) : Int32).toInt = (-1) by decide) (by omega) (by omega)
                          refine v_iinc (v := x92) (lv' := [(0, .ref (ad b)), (1, .int y2), (2, .int y3), (3, .int y4), (4, .int x16), (5, .int y19), (7, .int x92)]) C 6 [1, 2, 3, 4, 5, 6, 0] dX6_sortYear_134 rfl (ex92.symm) (by decide) rfl ?_
                          refine v_goto C 95 dX6_sortYear_137 (by decide) ?_
                          exact ih76 _ x92 hJ91 (by have := hx92; omega) (by have := hx92; omega) (by have := hx92; omega)
                    refine v_sub (lv' := [(0, .ref (ad b)), (1, .int y2), (2, .int y3), (3, .int y4), (4, .int x16), (5, .int y19), (7, .int y3)]) [0, 1, 2, 3, 4, 5, 7] rfl ?_
                    exact LP71 100000 _ y3 hJ22 (by omega) (by omega) (by omega)
                  · refine v_iconst (v := 1) C dX6_sortYear_80 (by decide) ?_
                    refine v_goto C 85 dX6_sortYear_81 (by decide) ?_
                    refine v_istore (lv' := [(0, .ref (ad b)), (1, .int y2), (2, .int y3), (3, .int y4), (4, .int x16), (5, .int y19), (6, .int 1)]) C [1, 2, 3, 4, 5, 6, 0] dX6_sortYear_85 (by decide) rfl ?_
                    refine v_iload C 6 dX6_sortYear_87 rfl ?_
                    refine b_if_ne C 143 dX6_sortYear_89 (by decide) (show (1 : Int32).toInt = 1 by decide) (fun c93 => ?_) (fun c93 => absurd c93 (by decide))
                    refine v_sub (lv' := [(0, .ref (ad b)), (1, .int y2), (2, .int y3), (3, .int y4), (4, .int x16), (5, .int y19)]) [0, 1, 2, 3, 4, 5] rfl ?_
                    exact JN27 _ y3 hJ22 (by omega) (by omega)
              · refine v_aload_n C 0 dX6_sortYear_42 rfl rfl ?_
                obtain ⟨i94, hE94, hb94⟩ := hJ22.2.2.getO (b := b) (by omega) hb.t0
                refine v_getr C b dX6_sortYear_43 fX6_21 (by omega) hE94 rfl rfl ?_
                refine v_iload C 5 dX6_sortYear_46 rfl ?_
                refine v_iconst (v := 1) C dX6_sortYear_48 (by decide) ?_
                refine v_isub C dX6_sortYear_49 ?_
                refine v_top (fun x95 ex95 => ?_)
                have hx95 : x95.toInt = (y19.toInt - 1) := by rw [ex95]; exact ti_sub (rfl : Int32.toInt y19 = _) (show (1 : Int32).toInt = 1 by decide) (by omega) (by omega)
                obtain ⟨f96, hE96, hb96⟩ := hJ22.2.2.getA (b := (b + 4)) (by omega) hb.t4
                refine v_ald (v := f96 ((y19.toInt - 1)).toNat) C (b + 4) dX6_sortYear_50 (by omega) hE96 (ti_in hx95 (by omega) (by omega)) (by rw [ti_cl hx95]) ?_
                refine v_top (fun x97 _ => ?_)
                refine v_iload C 4 dX6_sortYear_51 rfl ?_
                refine b_icmp_lt C 62 dX6_sortYear_53 (by decide) (rfl : Int32.toInt x97 = _) (rfl : Int32.toInt x16 = _) (fun c98 => ?_) (fun c98 => ?_)
                · have JN99 : ∀ (E102 : Nat → va_E) (y100 : Int32), J8 G ad k E0 E102 → ((0 : Int) ≤ y100.toInt ∧ y100.toInt ≤ 8) → (y100.toInt ≤ y4.toInt + 1) → V X G A 8 (QI X G A (98 + 9 * k) ad (fun r E' => ((0 : Int) ≤ r.toInt ∧ r.toInt ≤ 8) ∧ J8 G ad k E0 E')) (98 + 9 * k) ad 0 0 E102 143 [(0, .ref (ad b)), (1, .int y2), (2, .int y100), (3, .int y4), (4, .int x16), (5, .int y19)] [] := by
                    intro E102 y100 hJ103 hy100 hq101
                    refine v_aload_n C 0 dX6_sortYear_143 rfl rfl ?_
                    obtain ⟨i104, hE104, hb104⟩ := hJ103.2.2.getO (b := b) (by omega) hb.t0
                    refine v_getr C b dX6_sortYear_144 fX6_21 (by omega) hE104 rfl rfl ?_
                    refine v_iload C 5 dX6_sortYear_147 rfl ?_
                    refine v_iload C 4 dX6_sortYear_149 rfl ?_
                    obtain ⟨f105, hE105, hb105⟩ := hJ103.2.2.getA (b := (b + 4)) (by omega) hb.t4
                    refine v_ast C (b + 4) dX6_sortYear_151 (by omega) hE105 (ti_in (rfl : Int32.toInt y19 = _) (by omega) (by omega)) (fun E106 hE106_b4 oE106 => ?_)
                    rw [ti_cl (rfl : Int32.toInt y19 = _)] at hE106_b4
                    have hE106_b := (oE106 b (by omega)).trans hE104
                    have hJ107 := hJ103.with (hJ103.2.2.setA hb.t4 (by unfold P8; omega) hb105 (ti_any x16) hE106_b4 oE106)
                    refine v_aload_n C 0 dX6_sortYear_152 rfl rfl ?_
                    refine v_getr C b dX6_sortYear_153 fX6_24 (by omega) hE106_b rfl rfl ?_
                    refine v_iload C 5 dX6_sortYear_156 rfl ?_
                    refine v_aload_n C 0 dX6_sortYear_158 rfl rfl ?_
                    refine v_getr C b dX6_sortYear_159 fX6_15 (by omega) hE106_b rfl rfl ?_
                    refine v_iload_n C 3 dX6_sortYear_162 rfl rfl ?_
                    obtain ⟨f108, hE108, hb108⟩ := hJ107.2.2.getA (b := (b + 2)) (by omega) hb.t2
                    refine v_ald (v := f108 (y4.toInt).toNat) C (b + 2) dX6_sortYear_163 (by omega) hE108 (ti_in (rfl : Int32.toInt y4 = _) (by omega) (by omega)) (by rw [ti_cl (rfl : Int32.toInt y4 = _)]) ?_
                    refine v_top (fun x109 _ => ?_)
                    obtain ⟨f110, hE110, hb110⟩ := hJ107.2.2.getA (b := (b + 5)) (by omega) hb.t5
                    refine v_ast C (b + 5) dX6_sortYear_164 (by omega) hE110 (ti_in (rfl : Int32.toInt y19 = _) (by omega) (by omega)) (fun E111 hE111_b5 oE111 => ?_)
                    rw [ti_cl (rfl : Int32.toInt y19 = _)] at hE111_b5
                    have hE111_b := (oE111 b (by omega)).trans hE106_b
                    have hE111_b2 := (oE111 (b + 2) (by omega)).trans hE108
                    have hJ112 := hJ107.with (hJ107.2.2.setA hb.t5 (by unfold P8; omega) hb110 (ti_any x109) hE111_b5 oE111)
                    obtain ⟨x113, ex113⟩ : ∃ y : Int32, y = y4 + 1 := ⟨_, rfl⟩
                    have hx113 : x113.toInt = (y4.toInt + 1) := by rw [ex113]; exact ti_add (rfl : Int32.toInt y4 = _) (show (1 : Int32).toInt = 1 by decide) (by omega) (by omega)
                    refine v_iinc (v := x113) (lv' := [(0, .ref (ad b)), (1, .int y2), (2, .int y100), (3, .int x113), (4, .int x16), (5, .int y19)]) C 3 [1, 2, 3, 0, 4, 5] dX6_sortYear_165 rfl (ex113.symm) (by decide) rfl ?_
                    refine v_goto C 4 dX6_sortYear_168 (by decide) ?_
                    refine v_sub (lv' := [(0, .ref (ad b)), (1, .int y2), (2, .int y100), (3, .int x113)]) [0, 1, 2, 3] rfl ?_
                    exact ih8 _ y2 y100 x113 hJ112 (by have := hx113; omega) (by have := hx113; omega) (by have := hx113; omega) (by have := hx113; omega) (by have := hx113; omega)
                  refine v_iload C 5 dX6_sortYear_62 rfl ?_
                  refine v_iload_n C 2 dX6_sortYear_64 rfl rfl ?_
                  refine b_icmp_ge C 84 dX6_sortYear_65 (by decide) (rfl : Int32.toInt y19 = _) (rfl : Int32.toInt y3 = _) (fun c114 => ?_) (fun c114 => ?_)
                  · refine v_iconst (v := 0) C dX6_sortYear_84 (by decide) ?_
                    refine v_istore (lv' := [(0, .ref (ad b)), (1, .int y2), (2, .int y3), (3, .int y4), (4, .int x16), (5, .int y19), (6, .int 0)]) C [1, 2, 3, 4, 5, 6, 0] dX6_sortYear_85 (by decide) rfl ?_
                    refine v_iload C 6 dX6_sortYear_87 rfl ?_
                    refine b_if_ne C 143 dX6_sortYear_89 (by decide) (show (0 : Int32).toInt = 0 by decide) (fun c115 => absurd c115 (by decide)) (fun c115 => ?_)
                    refine v_iload_n C 2 dX6_sortYear_92 rfl rfl ?_
                    refine v_istore (lv' := [(0, .ref (ad b)), (1, .int y2), (2, .int y3), (3, .int y4), (4, .int x16), (5, .int y19), (6, .int 0), (7, .int y3)]) C [1, 2, 3, 4, 5, 6, 7, 0] dX6_sortYear_93 (by decide) rfl ?_
                    have LP116 : ∀ (t : Nat) (E119 : Nat → va_E) (y117 : Int32), J8 G ad k E0 E119 → ((0 : Int) ≤ y117.toInt ∧ y117.toInt ≤ 7) → (y117.toInt ≤ y3.toInt) → y117.toInt < (t : Int) → V X G A 8 (QI X G A (98 + 9 * k) ad (fun r E' => ((0 : Int) ≤ r.toInt ∧ r.toInt ≤ 8) ∧ J8 G ad k E0 E')) (98 + 9 * k) ad 0 0 E119 95 [(0, .ref (ad b)), (1, .int y2), (2, .int y3), (3, .int y4), (4, .int x16), (5, .int y19), (7, .int y117)] [] := by
                      intro t123
                      induction t123 with
                      | zero => intro E119 y117 hJ120 hy117 hq118 hm122; exfalso; omega
                      | succ t123 ih121 =>
                        intro E119 y117 hJ120 hy117 hq118 hm122
                        refine v_iload C 6 dX6_sortYear_95 rfl ?_
                        refine v_iload C 5 dX6_sortYear_97 rfl ?_
                        refine b_icmp_le C 140 dX6_sortYear_99 (by decide) (rfl : Int32.toInt y117 = _) (rfl : Int32.toInt y19 = _) (fun c124 => ?_) (fun c124 => ?_)
                        · obtain ⟨x125, ex125⟩ : ∃ y : Int32, y = y3 + 1 := ⟨_, rfl⟩
                          have hx125 : x125.toInt = (y3.toInt + 1) := by rw [ex125]; exact ti_add (rfl : Int32.toInt y3 = _) (show (1 : Int32).toInt = 1 by decide) (by omega) (by omega)
                          refine v_iinc (v := x125) (lv' := [(0, .ref (ad b)), (1, .int y2), (2, .int x125), (3, .int y4), (4, .int x16), (5, .int y19), (7, .int y117)]) C 2 [1, 2, 0, 3, 4, 5, 6] dX6_sortYear_140 rfl (ex125.symm) (by decide) rfl ?_
                          refine v_sub (lv' := [(0, .ref (ad b)), (1, .int y2), (2, .int x125), (3, .int y4), (4, .int x16), (5, .int y19)]) [0, 1, 2, 3, 4, 5] rfl ?_
                          exact JN99 _ x125 hJ120 (by have := hx125; omega) (by have := hx125; omega)
                        · refine v_aload_n C 0 dX6_sortYear_102 rfl rfl ?_
                          obtain ⟨i126, hE126, hb126⟩ := hJ120.2.2.getO (b := b) (by omega) hb.t0
                          refine v_getr C b dX6_sortYear_103 fX6_21 (by omega) hE126 rfl rfl ?_
                          refine v_iload C 6 dX6_sortYear_106 rfl ?_
                          refine v_aload_n C 0 dX6_sortYear_108 rfl rfl ?_
                          refine v_getr C b dX6_sortYear_109 fX6_21 (by omega) hE126 rfl rfl ?_
                          refine v_iload C 6 dX6_sortYear_112 rfl ?_
                          refine v_iconst (v := 1) C dX6_sortYear_114 (by decide) ?_
                          refine v_isub C dX6_sortYear_115 ?_
                          refine v_top (fun x127 ex127 => ?_)
                          have hx127 : x127.toInt = (y117.toInt - 1) := by rw [ex127]; exact ti_sub (rfl : Int32.toInt y117 = _) (show (1 : Int32).toInt = 1 by decide) (by omega) (by omega)
                          obtain ⟨f128, hE128, hb128⟩ := hJ120.2.2.getA (b := (b + 4)) (by omega) hb.t4
                          refine v_ald (v := f128 ((y117.toInt - 1)).toNat) C (b + 4) dX6_sortYear_116 (by omega) hE128 (ti_in hx127 (by omega) (by omega)) (by rw [ti_cl hx127]) ?_
                          refine v_top (fun x129 _ => ?_)
                          refine v_ast C (b + 4) dX6_sortYear_117 (by omega) hE128 (ti_in (rfl : Int32.toInt y117 = _) (by omega) (by omega)) (fun E130 hE130_b4 oE130 => ?_)
                          rw [ti_cl (rfl : Int32.toInt y117 = _)] at hE130_b4
                          have hE130_b := (oE130 b (by omega)).trans hE126
                          have hJ131 := hJ120.with (hJ120.2.2.setA hb.t4 (by unfold P8; omega) hb128 (ti_any x129) hE130_b4 oE130)
                          refine v_aload_n C 0 dX6_sortYear_118 rfl rfl ?_
                          refine v_getr C b dX6_sortYear_119 fX6_24 (by omega) hE130_b rfl rfl ?_
                          refine v_iload C 6 dX6_sortYear_122 rfl ?_
                          refine v_aload_n C 0 dX6_sortYear_124 rfl rfl ?_
                          refine v_getr C b dX6_sortYear_125 fX6_24 (by omega) hE130_b rfl rfl ?_
                          refine v_iload C 6 dX6_sortYear_128 rfl ?_
                          refine v_iconst (v := 1) C dX6_sortYear_130 (by decide) ?_
                          refine v_isub C dX6_sortYear_131 ?_
                          refine v_top (fun x132 ex132 => ?_)
                          have hx132 : x132.toInt = (y117.toInt - 1) := by rw [ex132]; exact ti_sub (rfl : Int32.toInt y117 = _) (show (1 : Int32).toInt = 1 by decide) (by omega) (by omega)
                          obtain ⟨f133, hE133, hb133⟩ := hJ131.2.2.getA (b := (b + 5)) (by omega) hb.t5
                          refine v_ald (v := f133 ((y117.toInt - 1)).toNat) C (b + 5) dX6_sortYear_132 (by omega) hE133 (ti_in hx132 (by omega) (by omega)) (by rw [ti_cl hx132]) ?_
                          refine v_top (fun x134 _ => ?_)
                          refine v_ast C (b + 5) dX6_sortYear_133 (by omega) hE133 (ti_in (rfl : Int32.toInt y117 = _) (by omega) (by omega)) (fun E135 hE135_b5 oE135 => ?_)
                          rw [ti_cl (rfl : Int32.toInt y117 = _)] at hE135_b5
                          have hE135_b := (oE135 b (by omega)).trans hE130_b
                          have hJ136 := hJ131.with (hJ131.2.2.setA hb.t5 (by unfold P8; omega) hb133 (ti_any x134) hE135_b5 oE135)
                          obtain ⟨x137, ex137⟩ : ∃ y : Int32, y = y117 + (-1) := ⟨_, rfl⟩
                          have hx137 : x137.toInt = (y117.toInt + (-1)) := by rw [ex137]; exact ti_add (rfl : Int32.toInt y117 = _) (show ((-1) : Int32).toInt = (-1) by decide) (by omega) (by omega)
                          refine v_iinc (v := x137) (lv' := [(0, .ref (ad b)), (1, .int y2), (2, .int y3), (3, .int y4), (4, .int x16), (5, .int y19), (7, .int x137)]) C 6 [1, 2, 3, 4, 5, 6, 0] dX6_sortYear_134 rfl (ex137.symm) (by decide) rfl ?_
                          refine v_goto C 95 dX6_sortYear_137 (by decide) ?_
                          exact ih121 _ x137 hJ136 (by have := hx137; omega) (by have := hx137; omega) (by have := hx137; omega)
                    refine v_sub (lv' := [(0, .ref (ad b)), (1, .int y2), (2, .int y3), (3, .int y4), (4, .int x16), (5, .int y19), (7, .int y3)]) [0, 1, 2, 3, 4, 5, 7] rfl ?_
                    exact LP116 100000 _ y3 hJ22 (by omega) (by omega) (by omega)
                  · refine v_aload_n C 0 dX6_sortYear_68 rfl rfl ?_
                    refine v_getr C b dX6_sortYear_69 fX6_21 (by omega) hE94 rfl rfl ?_
                    refine v_iload C 5 dX6_sortYear_72 rfl ?_
                    refine v_ald (v := f96 (y19.toInt).toNat) C (b + 4) dX6_sortYear_74 (by omega) hE96 (ti_in (rfl : Int32.toInt y19 = _) (by omega) (by omega)) (by rw [ti_cl (rfl : Int32.toInt y19 = _)]) ?_
                    refine v_top (fun x138 _ => ?_)
                    refine v_iload C 4 dX6_sortYear_75 rfl ?_
                    refine b_icmp_ne C 84 dX6_sortYear_77 (by decide) (rfl : Int32.toInt x138 = _) (rfl : Int32.toInt x16 = _) (fun c139 => ?_) (fun c139 => ?_)
                    · refine v_iconst (v := 0) C dX6_sortYear_84 (by decide) ?_
                      refine v_istore (lv' := [(0, .ref (ad b)), (1, .int y2), (2, .int y3), (3, .int y4), (4, .int x16), (5, .int y19), (6, .int 0)]) C [1, 2, 3, 4, 5, 6, 0] dX6_sortYear_85 (by decide) rfl ?_
                      refine v_iload C 6 dX6_sortYear_87 rfl ?_
                      refine b_if_ne C 143 dX6_sortYear_89 (by decide) (show (0 : Int32).toInt = 0 by decide) (fun c140 => absurd c140 (by decide)) (fun c140 => ?_)
                      refine v_iload_n C 2 dX6_sortYear_92 rfl rfl ?_
                      refine v_istore (lv' := [(0, .ref (ad b)), (1, .int y2), (2, .int y3), (3, .int y4), (4, .int x16), (5, .int y19), (6, .int 0), (7, .int y3)]) C [1, 2, 3, 4, 5, 6, 7, 0] dX6_sortYear_93 (by decide) rfl ?_
                      have LP141 : ∀ (t : Nat) (E144 : Nat → va_E) (y142 : Int32), J8 G ad k E0 E144 → ((0 : Int) ≤ y142.toInt ∧ y142.toInt ≤ 7) → (y142.toInt ≤ y3.toInt) → y142.toInt < (t : Int) → V X G A 8 (QI X G A (98 + 9 * k) ad (fun r E' => ((0 : Int) ≤ r.toInt ∧ r.toInt ≤ 8) ∧ J8 G ad k E0 E')) (98 + 9 * k) ad 0 0 E144 95 [(0, .ref (ad b)), (1, .int y2), (2, .int y3), (3, .int y4), (4, .int x16), (5, .int y19), (7, .int y142)] [] := by
                        intro t148
                        induction t148 with
                        | zero => intro E144 y142 hJ145 hy142 hq143 hm147; exfalso; omega
                        | succ t148 ih146 =>
                          intro E144 y142 hJ145 hy142 hq143 hm147
                          refine v_iload C 6 dX6_sortYear_95 rfl ?_
                          refine v_iload C 5 dX6_sortYear_97 rfl ?_
                          refine b_icmp_le C 140 dX6_sortYear_99 (by decide) (rfl : Int32.toInt y142 = _) (rfl : Int32.toInt y19 = _) (fun c149 => ?_) (fun c149 => ?_)
                          · obtain ⟨x150, ex150⟩ : ∃ y : Int32, y = y3 + 1 := ⟨_, rfl⟩
                            have hx150 : x150.toInt = (y3.toInt + 1) := by rw [ex150]; exact ti_add (rfl : Int32.toInt y3 = _) (show (1 : Int32).toInt = 1 by decide) (by omega) (by omega)
                            refine v_iinc (v := x150) (lv' := [(0, .ref (ad b)), (1, .int y2), (2, .int x150), (3, .int y4), (4, .int x16), (5, .int y19), (7, .int y142)]) C 2 [1, 2, 0, 3, 4, 5, 6] dX6_sortYear_140 rfl (ex150.symm) (by decide) rfl ?_
                            refine v_sub (lv' := [(0, .ref (ad b)), (1, .int y2), (2, .int x150), (3, .int y4), (4, .int x16), (5, .int y19)]) [0, 1, 2, 3, 4, 5] rfl ?_
                            exact JN99 _ x150 hJ145 (by have := hx150; omega) (by have := hx150; omega)
                          · refine v_aload_n C 0 dX6_sortYear_102 rfl rfl ?_
                            obtain ⟨i151, hE151, hb151⟩ := hJ145.2.2.getO (b := b) (by omega) hb.t0
                            refine v_getr C b dX6_sortYear_103 fX6_21 (by omega) hE151 rfl rfl ?_
                            refine v_iload C 6 dX6_sortYear_106 rfl ?_
                            refine v_aload_n C 0 dX6_sortYear_108 rfl rfl ?_
                            refine v_getr C b dX6_sortYear_109 fX6_21 (by omega) hE151 rfl rfl ?_
                            refine v_iload C 6 dX6_sortYear_112 rfl ?_
                            refine v_iconst (v := 1) C dX6_sortYear_114 (by decide) ?_
                            refine v_isub C dX6_sortYear_115 ?_
                            refine v_top (fun x152 ex152 => ?_)
                            have hx152 : x152.toInt = (y142.toInt - 1) := by rw [ex152]; exact ti_sub (rfl : Int32.toInt y142 = _) (show (1 : Int32).toInt = 1 by decide) (by omega) (by omega)
                            obtain ⟨f153, hE153, hb153⟩ := hJ145.2.2.getA (b := (b + 4)) (by omega) hb.t4
                            refine v_ald (v := f153 ((y142.toInt - 1)).toNat) C (b + 4) dX6_sortYear_116 (by omega) hE153 (ti_in hx152 (by omega) (by omega)) (by rw [ti_cl hx152]) ?_
                            refine v_top (fun x154 _ => ?_)
                            refine v_ast C (b + 4) dX6_sortYear_117 (by omega) hE153 (ti_in (rfl : Int32.toInt y142 = _) (by omega) (by omega)) (fun E155 hE155_b4 oE155 => ?_)
                            rw [ti_cl (rfl : Int32.toInt y142 = _)] at hE155_b4
                            have hE155_b := (oE155 b (by omega)).trans hE151
                            have hJ156 := hJ145.with (hJ145.2.2.setA hb.t4 (by unfold P8; omega) hb153 (ti_any x154) hE155_b4 oE155)
                            refine v_aload_n C 0 dX6_sortYear_118 rfl rfl ?_
                            refine v_getr C b dX6_sortYear_119 fX6_24 (by omega) hE155_b rfl rfl ?_
                            refine v_iload C 6 dX6_sortYear_122 rfl ?_
                            refine v_aload_n C 0 dX6_sortYear_124 rfl rfl ?_
                            refine v_getr C b dX6_sortYear_125 fX6_24 (by omega) hE155_b rfl rfl ?_
                            refine v_iload C 6 dX6_sortYear_128 rfl ?_
                            refine v_iconst (v := 1) C dX6_sortYear_130 (by decide) ?_
                            refine v_isub C dX6_sortYear_131 ?_
                            refine v_top (fun x157 ex157 => ?_)
                            have hx157 : x157.toInt = (y142.toInt - 1) := by rw [ex157]; exact ti_sub (rfl : Int32.toInt y142 = _) (show (1 : Int32).toInt = 1 by decide) (by omega) (by omega)
                            obtain ⟨f158, hE158, hb158⟩ := hJ156.2.2.getA (b := (b + 5)) (by omega) hb.t5
                            refine v_ald (v := f158 ((y142.toInt - 1)).toNat) C (b + 5) dX6_sortYear_132 (by omega) hE158 (ti_in hx157 (by omega) (by omega)) (by rw [ti_cl hx157]) ?_
                            refine v_top (fun x159 _ => ?_)
                            refine v_ast C (b + 5) dX6_sortYear_133 (by omega) hE158 (ti_in (rfl : Int32.toInt y142 = _) (by omega) (by omega)) (fun E160 hE160_b5 oE160 => ?_)
                            rw [ti_cl (rfl : Int32.toInt y142 = _)] at hE160_b5
                            have hE160_b := (oE160 b (by omega)).trans hE155_b
                            have hJ161 := hJ156.with (hJ156.2.2.setA hb.t5 (by unfold P8; omega) hb158 (ti_any x159) hE160_b5 oE160)
                            obtain ⟨x162, ex162⟩ : ∃ y : Int32, y = y142 + (-1) := ⟨_, rfl⟩
                            have hx162 : x162.toInt = (y142.toInt + (-1)) := by rw [ex162]; exact ti_add (rfl : Int32.toInt y142 = _) (show ((-1) : Int32).toInt = (-1) by decide) (by omega) (by omega)
                            refine v_iinc (v := x162) (lv' := [(0, .ref (ad b)), (1, .int y2), (2, .int y3), (3, .int y4), (4, .int x16), (5, .int y19), (7, .int x162)]) C 6 [1, 2, 3, 4, 5, 6, 0] dX6_sortYear_134 rfl (ex162.symm) (by decide) rfl ?_
                            refine v_goto C 95 dX6_sortYear_137 (by decide) ?_
                            exact ih146 _ x162 hJ161 (by have := hx162; omega) (by have := hx162; omega) (by have := hx162; omega)
                      refine v_sub (lv' := [(0, .ref (ad b)), (1, .int y2), (2, .int y3), (3, .int y4), (4, .int x16), (5, .int y19), (7, .int y3)]) [0, 1, 2, 3, 4, 5, 7] rfl ?_
                      exact LP141 100000 _ y3 hJ22 (by omega) (by omega) (by omega)
                    · refine v_iconst (v := 1) C dX6_sortYear_80 (by decide) ?_
                      refine v_goto C 85 dX6_sortYear_81 (by decide) ?_
                      refine v_istore (lv' := [(0, .ref (ad b)), (1, .int y2), (2, .int y3), (3, .int y4), (4, .int x16), (5, .int y19), (6, .int 1)]) C [1, 2, 3, 4, 5, 6, 0] dX6_sortYear_85 (by decide) rfl ?_
                      refine v_iload C 6 dX6_sortYear_87 rfl ?_
                      refine b_if_ne C 143 dX6_sortYear_89 (by decide) (show (1 : Int32).toInt = 1 by decide) (fun c163 => ?_) (fun c163 => absurd c163 (by decide))
                      refine v_sub (lv' := [(0, .ref (ad b)), (1, .int y2), (2, .int y3), (3, .int y4), (4, .int x16), (5, .int y19)]) [0, 1, 2, 3, 4, 5] rfl ?_
                      exact JN99 _ y3 hJ22 (by omega) (by omega)
                · obtain ⟨x164, ex164⟩ : ∃ y : Int32, y = y19 + (-1) := ⟨_, rfl⟩
                  have hx164 : x164.toInt = (y19.toInt + (-1)) := by rw [ex164]; exact ti_add (rfl : Int32.toInt y19 = _) (show ((-1) : Int32).toInt = (-1) by decide) (by omega) (by omega)
                  refine v_iinc (v := x164) (lv' := [(0, .ref (ad b)), (1, .int y2), (2, .int y3), (3, .int y4), (4, .int x16), (5, .int x164)]) C 5 [1, 2, 3, 4, 5, 0] dX6_sortYear_56 rfl (ex164.symm) (by decide) rfl ?_
                  refine v_goto C 37 dX6_sortYear_59 (by decide) ?_
                  exact ih23 _ x164 hJ22 (by have := hx164; omega) (by have := hx164; omega) (by have := hx164; omega)
          exact LP18 100000 _ y3 hJ7 (by omega) (by omega) (by omega)
        · refine v_goto C 165 dX6_sortYear_31 (by decide) ?_
          obtain ⟨x165, ex165⟩ : ∃ y : Int32, y = y4 + 1 := ⟨_, rfl⟩
          have hx165 : x165.toInt = (y4.toInt + 1) := by rw [ex165]; exact ti_add (rfl : Int32.toInt y4 = _) (show (1 : Int32).toInt = 1 by decide) (by omega) (by omega)
          refine v_iinc (v := x165) (lv' := [(0, .ref (ad b)), (1, .int y2), (2, .int y3), (3, .int x165), (4, .int x16)]) C 3 [1, 2, 3, 0, 4] dX6_sortYear_165 rfl (ex165.symm) (by decide) rfl ?_
          refine v_goto C 4 dX6_sortYear_168 (by decide) ?_
          refine v_sub (lv' := [(0, .ref (ad b)), (1, .int y2), (2, .int y3), (3, .int x165)]) [0, 1, 2, 3] rfl ?_
          exact ih8 _ y2 y3 x165 hJ7 (by have := hx165; omega) (by have := hx165; omega) (by have := hx165; omega) (by have := hx165; omega) (by have := hx165; omega)
  exact LP1 100000 _ y 0 0 hJ (by have := (show (0 : Int32).toInt = 0 by decide); omega) (by have := (show (0 : Int32).toInt = 0 by decide); omega) (by have := (show (0 : Int32).toInt = 0 by decide); omega) (by have := (show (0 : Int32).toInt = 0 by decide); omega) (by have := (show (0 : Int32).toInt = 0 by decide); omega)

set_option maxRecDepth 20000 in
theorem t_X6_takeChanges (l : Launch) (G : Gl) (ad : Nat → Nat) {k : Nat} {E0 E : Nat → va_E} (hJ : J8 G ad k E0 E) (b : Nat) (hb : ZC k b) : CtV l G yX6_takeChanges cX6_takeChanges 4 1 27 (98 + 9 * k) ad E [.ref (ad b)] (fun E' => J8 G ad k E0 E') := by
  refine CtV.of (by decide) (Nat.le_of_ble_eq_true rfl) (fun X A C => ?_)
  refine v_sub (lv' := [(0, .ref (ad b))]) [0] rfl ?_
  have hk5 := hJ.1
  have hbn := hb.n
  refine v_aload_n C 0 dX6_takeChanges_0 rfl rfl ?_
  refine v_iconst (v := 0) C dX6_takeChanges_1 (by decide) ?_
  obtain ⟨i1, hE1, hb1⟩ := hJ.2.2.getO (b := b) (by omega) hb.t0
  refine v_puti C b dX6_takeChanges_2 fX6_47 (by omega) hE1 rfl rfl rfl rfl (fun E2 hE2_b oE2 => ?_)
  obtain ⟨hJ3, hb4⟩ := hJ.2.2.setO hb.t0 (by unfold P8; omega) hb1 (k := 10) (show (0 : Int) ≤ Int32.toInt 0 ∧ Int32.toInt 0 ≤ 800 by decide) hE2_b oE2
  have hJ3 := hJ.with hJ3
  refine v_iconst (v := 0) C dX6_takeChanges_5 (by decide) ?_
  refine v_istore_n (lv' := [(0, .ref (ad b)), (1, .int 0)]) C [1, 0] dX6_takeChanges_6 rfl (by decide) rfl ?_
  have LP5 : ∀ (t : Nat) (E7 : Nat → va_E) (y6 : Int32), J8 G ad k E0 E7 → ((0 : Int) ≤ y6.toInt ∧ y6.toInt ≤ 100) → 101 - y6.toInt < (t : Int) → V X G A 4 (QV X G A (98 + 9 * k) ad (fun E' => J8 G ad k E0 E')) (98 + 9 * k) ad 0 0 E7 7 [(0, .ref (ad b)), (1, .int y6)] [] := by
    intro t11
    induction t11 with
    | zero => intro E7 y6 hJ8 hy6 hm10; exfalso; omega
    | succ t11 ih9 =>
      intro E7 y6 hJ8 hy6 hm10
      refine v_iload_n C 1 dX6_takeChanges_7 rfl rfl ?_
      refine v_bipush (v := 100) C dX6_takeChanges_8 (by decide) ?_
      refine b_icmp_ge C 54 dX6_takeChanges_10 (by decide) (rfl : Int32.toInt y6 = _) (show (100 : Int32).toInt = 100 by decide) (fun c12 => ?_) (fun c12 => ?_)
      · refine v_iconst (v := 0) C dX6_takeChanges_54 (by decide) ?_
        refine v_istore_n (lv' := [(0, .ref (ad b)), (1, .int 0)]) C [1, 0] dX6_takeChanges_55 rfl (by decide) rfl ?_
        have LP13 : ∀ (t : Nat) (E15 : Nat → va_E) (y14 : Int32), J8 G ad k E0 E15 → ((0 : Int) ≤ y14.toInt ∧ y14.toInt ≤ 800) → 801 - y14.toInt < (t : Int) → V X G A 4 (QV X G A (98 + 9 * k) ad (fun E' => J8 G ad k E0 E')) (98 + 9 * k) ad 0 0 E15 56 [(0, .ref (ad b)), (1, .int y14)] [] := by
          intro t19
          induction t19 with
          | zero => intro E15 y14 hJ16 hy14 hm18; exfalso; omega
          | succ t19 ih17 =>
            intro E15 y14 hJ16 hy14 hm18
            refine v_iload_n C 1 dX6_takeChanges_56 rfl rfl ?_
            refine v_aload_n C 0 dX6_takeChanges_57 rfl rfl ?_
            obtain ⟨i20, hE20, hb20⟩ := hJ16.2.2.getO (b := b) (by omega) hb.t0
            refine v_geti (v := i20 10) C b dX6_takeChanges_58 fX6_47 (by omega) hE20 rfl rfl ?_
            have hi20_10 : (0 : Int) ≤ (i20 10).toInt ∧ (i20 10).toInt ≤ 800 := hb20 10
            refine b_icmp_ge C 89 dX6_takeChanges_61 (by decide) (rfl : Int32.toInt y14 = _) (rfl : Int32.toInt (i20 10) = _) (fun c21 => ?_) (fun c21 => ?_)
            · refine v_aload_n C 0 dX6_takeChanges_89 rfl rfl ?_
              refine v_getr C b dX6_takeChanges_90 fX6_30 (by omega) hE20 rfl rfl ?_
              refine v_aload_n C 0 dX6_takeChanges_93 rfl rfl ?_
              refine v_geti (v := i20 10) C b dX6_takeChanges_94 fX6_47 (by omega) hE20 rfl rfl ?_
              refine v_ldc C dX6_takeChanges_97 kX6_36 ?_
              obtain ⟨f22, hE22, hb22⟩ := hJ16.2.2.getA (b := (b + 7)) (by omega) hb.t7
              refine v_ast C (b + 7) dX6_takeChanges_99 (by omega) hE22 (ti_in (rfl : Int32.toInt (i20 10) = _) (by omega) (by omega)) (fun E23 hE23_b7 oE23 => ?_)
              rw [ti_cl (rfl : Int32.toInt (i20 10) = _)] at hE23_b7
              have hE23_b := (oE23 b (by omega)).trans hE20
              have hJ24 := hJ16.with (hJ16.2.2.setA hb.t7 (by unfold P8; omega) hb22 (ti_any 60000000) hE23_b7 oE23)
              exact v_vret C dX6_takeChanges_100 rfl hJ24
            · refine v_aload_n C 0 dX6_takeChanges_64 rfl rfl ?_
              refine v_getr C b dX6_takeChanges_65 fX6_30 (by omega) hE20 rfl rfl ?_
              refine v_iload_n C 1 dX6_takeChanges_68 rfl rfl ?_
              refine v_aload_n C 0 dX6_takeChanges_69 rfl rfl ?_
              refine v_getr C b dX6_takeChanges_70 fX6_27 (by omega) hE20 rfl rfl ?_
              refine v_iload_n C 1 dX6_takeChanges_73 rfl rfl ?_
              refine v_iconst (v := 1) C dX6_takeChanges_74 (by decide) ?_
              refine v_iadd C dX6_takeChanges_75 ?_
              refine v_top (fun x25 ex25 => ?_)
              have hx25 : x25.toInt = (y14.toInt + 1) := by rw [ex25]; exact ti_add (rfl : Int32.toInt y14 = _) (show (1 : Int32).toInt = 1 by decide) (by omega) (by omega)
              obtain ⟨f26, hE26, hb26⟩ := hJ16.2.2.getA (b := (b + 6)) (by omega) hb.t6
              refine v_ald (v := f26 ((y14.toInt + 1)).toNat) C (b + 6) dX6_takeChanges_76 (by omega) hE26 (ti_in hx25 (by omega) (by omega)) (by rw [ti_cl hx25]) ?_
              refine v_top (fun x27 _ => ?_)
              refine v_ldc C dX6_takeChanges_77 kX6_36 ?_
              refine v_mmin C dX6_takeChanges_79 lX6_58 mJ9_min_7cf53.2.2.1 mJ9_min_7cf53.2.1 mJ9_min_7cf53.1 ⟨by decide, Nat.le_of_ble_eq_true rfl⟩ ⟨Nat.zero_le _, Nat.zero_le _⟩ ?_
              refine v_top (fun x28 ex28 => ?_)
              have hx28 : x28.toInt ≤ x27.toInt ∧ x28.toInt ≤ 60000000 ∧ (x28.toInt = x27.toInt ∨ x28.toInt = 60000000) := by rw [ex28]; exact mmin_b (rfl : Int32.toInt x27 = _) (show (60000000 : Int32).toInt = 60000000 by decide)
              obtain ⟨f29, hE29, hb29⟩ := hJ16.2.2.getA (b := (b + 7)) (by omega) hb.t7
              refine v_ast C (b + 7) dX6_takeChanges_82 (by omega) hE29 (ti_in (rfl : Int32.toInt y14 = _) (by omega) (by omega)) (fun E30 hE30_b7 oE30 => ?_)
              rw [ti_cl (rfl : Int32.toInt y14 = _)] at hE30_b7
              have hE30_b := (oE30 b (by omega)).trans hE20
              have hE30_b6 := (oE30 (b + 6) (by omega)).trans hE26
              have hJ31 := hJ16.with (hJ16.2.2.setA hb.t7 (by unfold P8; omega) hb29 (ti_any x28) hE30_b7 oE30)
              obtain ⟨x32, ex32⟩ : ∃ y : Int32, y = y14 + 1 := ⟨_, rfl⟩
              have hx32 : x32.toInt = (y14.toInt + 1) := by rw [ex32]; exact ti_add (rfl : Int32.toInt y14 = _) (show (1 : Int32).toInt = 1 by decide) (by omega) (by omega)
              refine v_iinc (v := x32) (lv' := [(0, .ref (ad b)), (1, .int x32)]) C 1 [1, 0] dX6_takeChanges_83 rfl (ex32.symm) (by decide) rfl ?_
              refine v_goto C 56 dX6_takeChanges_86 (by decide) ?_
              exact ih17 _ x32 hJ31 (by have := hx32; omega) (by have := hx32; omega)
        exact LP13 100000 _ 0 hJ8 (by have := (show (0 : Int32).toInt = 0 by decide); omega) (by have := (show (0 : Int32).toInt = 0 by decide); omega)
      · refine v_aload_n C 0 dX6_takeChanges_13 rfl rfl ?_
        refine v_iload_n C 1 dX6_takeChanges_14 rfl rfl ?_
        obtain ⟨i37, hE37, hb37⟩ := hJ8.2.2.getO (b := b) (by omega) hb.t0
        refine v_cVi C dX6_takeChanges_15 lX6_50 mX6_sortYear b (by omega) hE37 (by decide) rfl (t_X6_sortYear l G ad hJ8 b hb y6 (show (0 : Int) ≤ Int32.toInt y6 ∧ Int32.toInt y6 ≤ 99 by omega)) ⟨by decide, by decide⟩ rfl (Nat.le_of_ble_eq_true rfl) ⟨Nat.zero_le _, Nat.zero_le _⟩ (fun r33 E34 hp35 => ?_)
        obtain ⟨hp35, hJ36⟩ := hp35
        refine v_istore_n (lv' := [(0, .ref (ad b)), (1, .int y6), (2, .int r33)]) C [1, 2, 0] dX6_takeChanges_18 rfl (by decide) rfl ?_
        refine v_iconst (v := 0) C dX6_takeChanges_19 (by decide) ?_
        refine v_istore_n (lv' := [(0, .ref (ad b)), (1, .int y6), (2, .int r33), (3, .int 0)]) C [1, 2, 3, 0] dX6_takeChanges_20 rfl (by decide) rfl ?_
        have LP38 : ∀ (t : Nat) (E41 : Nat → va_E) (y39 : Int32), J8 G ad k E0 E41 → ((0 : Int) ≤ y39.toInt ∧ y39.toInt ≤ 8) → (y39.toInt ≤ r33.toInt) → 9 - y39.toInt < (t : Int) → V X G A 4 (QV X G A (98 + 9 * k) ad (fun E' => J8 G ad k E0 E')) (98 + 9 * k) ad 0 0 E41 21 [(0, .ref (ad b)), (1, .int y6), (2, .int r33), (3, .int y39)] [] := by
          intro t45
          induction t45 with
          | zero => intro E41 y39 hJ42 hy39 hq40 hm44; exfalso; omega
          | succ t45 ih43 =>
            intro E41 y39 hJ42 hy39 hq40 hm44
            refine v_iload_n C 3 dX6_takeChanges_21 rfl rfl ?_
            refine v_iload_n C 2 dX6_takeChanges_22 rfl rfl ?_
            refine b_icmp_ge C 48 dX6_takeChanges_23 (by decide) (rfl : Int32.toInt y39 = _) (rfl : Int32.toInt r33 = _) (fun c46 => ?_) (fun c46 => ?_)
            · obtain ⟨x47, ex47⟩ : ∃ y : Int32, y = y6 + 1 := ⟨_, rfl⟩
              have hx47 : x47.toInt = (y6.toInt + 1) := by rw [ex47]; exact ti_add (rfl : Int32.toInt y6 = _) (show (1 : Int32).toInt = 1 by decide) (by omega) (by omega)
              refine v_iinc (v := x47) (lv' := [(0, .ref (ad b)), (1, .int x47), (2, .int r33), (3, .int y39)]) C 1 [1, 0, 2, 3] dX6_takeChanges_48 rfl (ex47.symm) (by decide) rfl ?_
              refine v_goto C 7 dX6_takeChanges_51 (by decide) ?_
              refine v_sub (lv' := [(0, .ref (ad b)), (1, .int x47)]) [0, 1] rfl ?_
              exact ih9 _ x47 hJ42 (by have := hx47; omega) (by have := hx47; omega)
            · refine v_aload_n C 0 dX6_takeChanges_26 rfl rfl ?_
              refine v_aload_n C 0 dX6_takeChanges_27 rfl rfl ?_
              obtain ⟨i48, hE48, hb48⟩ := hJ42.2.2.getO (b := b) (by omega) hb.t0
              refine v_getr C b dX6_takeChanges_28 fX6_21 (by omega) hE48 rfl rfl ?_
              refine v_iload_n C 3 dX6_takeChanges_31 rfl rfl ?_
              obtain ⟨f49, hE49, hb49⟩ := hJ42.2.2.getA (b := (b + 4)) (by omega) hb.t4
              refine v_ald (v := f49 (y39.toInt).toNat) C (b + 4) dX6_takeChanges_32 (by omega) hE49 (ti_in (rfl : Int32.toInt y39 = _) (by omega) (by omega)) (by rw [ti_cl (rfl : Int32.toInt y39 = _)]) ?_
              refine v_top (fun x50 _ => ?_)
              refine v_aload_n C 0 dX6_takeChanges_33 rfl rfl ?_
              refine v_getr C b dX6_takeChanges_34 fX6_24 (by omega) hE48 rfl rfl ?_
              refine v_iload_n C 3 dX6_takeChanges_37 rfl rfl ?_
              obtain ⟨f51, hE51, hb51⟩ := hJ42.2.2.getA (b := (b + 5)) (by omega) hb.t5
              refine v_ald (v := f51 (y39.toInt).toNat) C (b + 5) dX6_takeChanges_38 (by omega) hE51 (ti_in (rfl : Int32.toInt y39 = _) (by omega) (by omega)) (by rw [ti_cl (rfl : Int32.toInt y39 = _)]) ?_
              refine v_top (fun x52 _ => ?_)
              refine v_cVv C dX6_takeChanges_39 lX6_54 mX6_take b (by omega) hE48 (by decide) rfl (t_X6_take l G ad hJ42 b hb x50 x52) ⟨by decide, by decide⟩ rfl (Nat.le_of_ble_eq_true rfl) ⟨Nat.zero_le _, Nat.zero_le _⟩ (fun E54 hJ56 => ?_)
              obtain ⟨x57, ex57⟩ : ∃ y : Int32, y = y39 + 1 := ⟨_, rfl⟩
              have hx57 : x57.toInt = (y39.toInt + 1) := by rw [ex57]; exact ti_add (rfl : Int32.toInt y39 = _) (show (1 : Int32).toInt = 1 by decide) (by omega) (by omega)
              refine v_iinc (v := x57) (lv' := [(0, .ref (ad b)), (1, .int y6), (2, .int r33), (3, .int x57)]) C 3 [1, 2, 3, 0] dX6_takeChanges_42 rfl (ex57.symm) (by decide) rfl ?_
              refine v_goto C 21 dX6_takeChanges_45 (by decide) ?_
              exact ih43 _ x57 hJ56 (by have := hx57; omega) (by have := hx57; omega) (by have := hx57; omega)
        exact LP38 100000 _ 0 hJ36 (by have := (show (0 : Int32).toInt = 0 by decide); omega) (by have := (show (0 : Int32).toInt = 0 by decide); omega) (by have := (show (0 : Int32).toInt = 0 by decide); omega)
  exact LP5 100000 _ 0 hJ3 (by have := (show (0 : Int32).toInt = 0 by decide); omega) (by have := (show (0 : Int32).toInt = 0 by decide); omega)

set_option maxRecDepth 20000 in
theorem t_X6_refresh (l : Launch) (G : Gl) (ad : Nat → Nat) {k : Nat} {E0 E : Nat → va_E} (hJ : J8 G ad k E0 E) (b : Nat) (hb : ZC k b) (x : Int32) : CtV l G yX6_refresh cX6_refresh 4 2 50 (98 + 9 * k) ad E [.ref (ad b), .int x] (fun E' => J8 G ad k E0 E') := by
  refine CtV.of (by decide) (Nat.le_of_ble_eq_true rfl) (fun X A C => ?_)
  refine v_sub (lv' := [(0, .ref (ad b)), (1, .int x)]) [0, 1] rfl ?_
  have hk5 := hJ.1
  have hbn := hb.n
  refine v_iconst (v := 0) C dX6_refresh_0 (by decide) ?_
  refine v_istore_n (lv' := [(0, .ref (ad b)), (1, .int x), (2, .int 0)]) C [1, 2, 0] dX6_refresh_1 rfl (by decide) rfl ?_
  refine v_iconst (v := 0) C dX6_refresh_2 (by decide) ?_
  refine v_istore_n (lv' := [(0, .ref (ad b)), (1, .int x), (2, .int 0), (3, .int 0)]) C [1, 2, 3, 0] dX6_refresh_3 rfl (by decide) rfl ?_
  have LP1 : ∀ (t : Nat) (E6 : Nat → va_E) (y2 : Int32) (y3 : Int32) (y4 : Int32), J8 G ad k E0 E6 → ((0 : Int) ≤ y3.toInt ∧ y3.toInt ≤ 8) → ((0 : Int) ≤ y4.toInt ∧ y4.toInt ≤ 8) → (y3.toInt ≤ y4.toInt) → 9 - y4.toInt < (t : Int) → V X G A 4 (QV X G A (98 + 9 * k) ad (fun E' => J8 G ad k E0 E')) (98 + 9 * k) ad 0 0 E6 4 [(0, .ref (ad b)), (1, .int y2), (2, .int y3), (3, .int y4)] [] := by
    intro t10
    induction t10 with
    | zero => intro E6 y2 y3 y4 hJ7 hy3 hy4 hq5 hm9; exfalso; omega
    | succ t10 ih8 =>
      intro E6 y2 y3 y4 hJ7 hy3 hy4 hq5 hm9
      refine v_iload_n C 3 dX6_refresh_4 rfl rfl ?_
      refine v_aload_n C 0 dX6_refresh_5 rfl rfl ?_
      obtain ⟨i11, hE11, hb11⟩ := hJ7.2.2.getO (b := b) (by omega) hb.t0
      refine v_geti (v := i11 8) C b dX6_refresh_6 fX6_37 (by omega) hE11 rfl rfl ?_
      have hi11_8 : (0 : Int) ≤ (i11 8).toInt ∧ (i11 8).toInt ≤ 8 := hb11 8
      refine b_icmp_ge C 31 dX6_refresh_9 (by decide) (rfl : Int32.toInt y4 = _) (rfl : Int32.toInt (i11 8) = _) (fun c12 => ?_) (fun c12 => ?_)
      · refine v_iload_n C 2 dX6_refresh_31 rfl rfl ?_
        refine v_aload_n C 0 dX6_refresh_32 rfl rfl ?_
        refine v_geti (v := i11 9) C b dX6_refresh_33 fX6_41 (by omega) hE11 rfl rfl ?_
        have hi11_9 : (0 : Int) ≤ (i11 9).toInt ∧ (i11 9).toInt ≤ 8 := hb11 9
        refine b_icmp_eq C 48 dX6_refresh_36 (by decide) (rfl : Int32.toInt y3 = _) (rfl : Int32.toInt (i11 9) = _) (fun c13 => ?_) (fun c13 => ?_)
        · exact v_vret C dX6_refresh_48 rfl hJ7
        · refine v_aload_n C 0 dX6_refresh_39 rfl rfl ?_
          refine v_iload_n C 2 dX6_refresh_40 rfl rfl ?_
          refine v_puti C b dX6_refresh_41 fX6_41 (by omega) hE11 rfl rfl rfl rfl (fun E14 hE14_b oE14 => ?_)
          obtain ⟨hJ15, hb16⟩ := hJ7.2.2.setO hb.t0 (by unfold P8; omega) hb11 (k := 9) (show (0 : Int) ≤ Int32.toInt y3 ∧ Int32.toInt y3 ≤ 8 by omega) hE14_b oE14
          have hJ15 := hJ7.with hJ15
          refine v_aload_n C 0 dX6_refresh_44 rfl rfl ?_
          refine v_cVv C dX6_refresh_45 lX6_44 mX6_takeChanges b (by omega) hE14_b (by decide) rfl (t_X6_takeChanges l G ad hJ15 b hb) ⟨by decide, by decide⟩ rfl (Nat.le_of_ble_eq_true rfl) ⟨Nat.zero_le _, Nat.zero_le _⟩ (fun E18 hJ20 => ?_)
          exact v_vret C dX6_refresh_48 rfl hJ20
      · refine v_aload_n C 0 dX6_refresh_12 rfl rfl ?_
        refine v_getr C b dX6_refresh_13 fX6_9 (by omega) hE11 rfl rfl ?_
        refine v_iload_n C 3 dX6_refresh_16 rfl rfl ?_
        obtain ⟨f21, hE21, hb21⟩ := hJ7.2.2.getA (b := (b + 1)) (by omega) hb.t1
        refine v_ald (v := f21 (y4.toInt).toNat) C (b + 1) dX6_refresh_17 (by omega) hE21 (ti_in (rfl : Int32.toInt y4 = _) (by omega) (by omega)) (by rw [ti_cl (rfl : Int32.toInt y4 = _)]) ?_
        refine v_top (fun x22 _ => ?_)
        refine v_iload_n C 1 dX6_refresh_18 rfl rfl ?_
        refine b_icmp_gt C 25 dX6_refresh_19 (by decide) (rfl : Int32.toInt x22 = _) (rfl : Int32.toInt y2 = _) (fun c23 => ?_) (fun c23 => ?_)
        · obtain ⟨x24, ex24⟩ : ∃ y : Int32, y = y4 + 1 := ⟨_, rfl⟩
          have hx24 : x24.toInt = (y4.toInt + 1) := by rw [ex24]; exact ti_add (rfl : Int32.toInt y4 = _) (show (1 : Int32).toInt = 1 by decide) (by omega) (by omega)
          refine v_iinc (v := x24) (lv' := [(0, .ref (ad b)), (1, .int y2), (2, .int y3), (3, .int x24)]) C 3 [1, 2, 3, 0] dX6_refresh_25 rfl (ex24.symm) (by decide) rfl ?_
          refine v_goto C 4 dX6_refresh_28 (by decide) ?_
          exact ih8 _ y2 y3 x24 hJ7 (by have := hx24; omega) (by have := hx24; omega) (by have := hx24; omega) (by have := hx24; omega)
        · obtain ⟨x25, ex25⟩ : ∃ y : Int32, y = y3 + 1 := ⟨_, rfl⟩
          have hx25 : x25.toInt = (y3.toInt + 1) := by rw [ex25]; exact ti_add (rfl : Int32.toInt y3 = _) (show (1 : Int32).toInt = 1 by decide) (by omega) (by omega)
          refine v_iinc (v := x25) (lv' := [(0, .ref (ad b)), (1, .int y2), (2, .int x25), (3, .int y4)]) C 2 [1, 2, 0, 3] dX6_refresh_22 rfl (ex25.symm) (by decide) rfl ?_
          obtain ⟨x26, ex26⟩ : ∃ y : Int32, y = y4 + 1 := ⟨_, rfl⟩
          have hx26 : x26.toInt = (y4.toInt + 1) := by rw [ex26]; exact ti_add (rfl : Int32.toInt y4 = _) (show (1 : Int32).toInt = 1 by decide) (by omega) (by omega)
          refine v_iinc (v := x26) (lv' := [(0, .ref (ad b)), (1, .int y2), (2, .int x25), (3, .int x26)]) C 3 [1, 2, 3, 0] dX6_refresh_25 rfl (ex26.symm) (by decide) rfl ?_
          refine v_goto C 4 dX6_refresh_28 (by decide) ?_
          exact ih8 _ y2 x25 x26 hJ7 (by have := hx25; have := hx26; omega) (by have := hx25; have := hx26; omega) (by have := hx25; have := hx26; omega) (by have := hx25; have := hx26; omega)
  exact LP1 100000 _ x 0 0 hJ (by have := (show (0 : Int32).toInt = 0 by decide); omega) (by have := (show (0 : Int32).toInt = 0 by decide); omega) (by have := (show (0 : Int32).toInt = 0 by decide); omega) (by have := (show (0 : Int32).toInt = 0 by decide); omega)

set_option maxRecDepth 20000 in
theorem t_X6_stretchAt (l : Launch) (G : Gl) (ad : Nat → Nat) {k : Nat} {E0 E : Nat → va_E} (hJ : J8 G ad k E0 E) (b : Nat) (hb : ZC k b) (x : Int32) : CtI l G yX6_stretchAt cX6_stretchAt 4 .int 0 0 (98 + 9 * k) ad E [.ref (ad b), .int x] (fun r E' => ((0 : Int) ≤ r.toInt ∧ r.toInt ≤ 800) ∧ E = E') := by
  refine CtI.of (by decide) (Nat.le_of_ble_eq_true rfl) (fun X A C => ?_)
  refine v_sub (lv' := [(0, .ref (ad b)), (1, .int x)]) [0, 1] rfl ?_
  have hk5 := hJ.1
  have hbn := hb.n
  refine v_iconst (v := 0) C dX6_stretchAt_0 (by decide) ?_
  refine v_istore_n (lv' := [(0, .ref (ad b)), (1, .int x), (2, .int 0)]) C [1, 2, 0] dX6_stretchAt_1 rfl (by decide) rfl ?_
  refine v_sipush (v := 512) C dX6_stretchAt_2 (by decide) ?_
  refine v_istore_n (lv' := [(0, .ref (ad b)), (1, .int x), (2, .int 0), (3, .int 512)]) C [1, 2, 3, 0] dX6_stretchAt_5 rfl (by decide) rfl ?_
  have LP1 : ∀ (t : Nat) (y2 : Int32) (y3 : Int32) (y4 : Int32), ((0 : Int) ≤ y3.toInt ∧ y3.toInt ≤ 800) → ((0 : Int) ≤ y4.toInt ∧ y4.toInt ≤ 512) → y4.toInt < (t : Int) → V X G A 4 (QI X G A (98 + 9 * k) ad (fun r E' => ((0 : Int) ≤ r.toInt ∧ r.toInt ≤ 800) ∧ E = E')) (98 + 9 * k) ad 0 0 E 6 [(0, .ref (ad b)), (1, .int y2), (2, .int y3), (3, .int y4)] [] := by
    intro t9
    induction t9 with
    | zero => intro y2 y3 y4 hy3 hy4 hm8; exfalso; omega
    | succ t9 ih7 =>
      intro y2 y3 y4 hy3 hy4 hm8
      refine v_iload_n C 3 dX6_stretchAt_6 rfl rfl ?_
      refine b_if_le C 43 dX6_stretchAt_7 (by decide) (rfl : Int32.toInt y4 = _) (fun c10 => ?_) (fun c10 => ?_)
      · refine v_iload_n C 2 dX6_stretchAt_43 rfl rfl ?_
        exact v_ret C dX6_stretchAt_44 rfl rfl ⟨(show (0 : Int) ≤ Int32.toInt y3 ∧ Int32.toInt y3 ≤ 800 by omega), rfl⟩
      · refine v_iload_n C 2 dX6_stretchAt_10 rfl rfl ?_
        refine v_iload_n C 3 dX6_stretchAt_11 rfl rfl ?_
        refine v_iadd C dX6_stretchAt_12 ?_
        refine v_top (fun x11 ex11 => ?_)
        have hx11 : x11.toInt = (y3.toInt + y4.toInt) := by rw [ex11]; exact ti_add (rfl : Int32.toInt y3 = _) (rfl : Int32.toInt y4 = _) (by omega) (by omega)
        refine v_aload_n C 0 dX6_stretchAt_13 rfl rfl ?_
        obtain ⟨i12, hE12, hb12⟩ := hJ.2.2.getO (b := b) (by omega) hb.t0
        refine v_geti (v := i12 10) C b dX6_stretchAt_14 fX6_47 (by omega) hE12 rfl rfl ?_
        have hi12_10 : (0 : Int) ≤ (i12 10).toInt ∧ (i12 10).toInt ≤ 800 := hb12 10
        refine b_icmp_gt C 36 dX6_stretchAt_17 (by decide) hx11 (rfl : Int32.toInt (i12 10) = _) (fun c13 => ?_) (fun c13 => ?_)
        · refine v_iload_n C 3 dX6_stretchAt_36 rfl rfl ?_
          refine v_iconst (v := 1) C dX6_stretchAt_37 (by decide) ?_
          refine v_ishr C dX6_stretchAt_38 ?_
          refine v_top (fun x14 ex14 => ?_)
          have hx14 : x14.toInt = y4.toInt / 2 := by rw [ex14, ti_shr1]
          refine v_istore_n (lv' := [(0, .ref (ad b)), (1, .int y2), (2, .int y3), (3, .int x14)]) C [1, 2, 3, 0] dX6_stretchAt_39 rfl (by decide) rfl ?_
          refine v_goto C 6 dX6_stretchAt_40 (by decide) ?_
          exact ih7 y2 y3 x14  (by have := hx14; omega) (by have := hx14; omega) (by have := hx14; omega)
        · refine v_aload_n C 0 dX6_stretchAt_20 rfl rfl ?_
          refine v_getr C b dX6_stretchAt_21 fX6_27 (by omega) hE12 rfl rfl ?_
          refine v_iload_n C 2 dX6_stretchAt_24 rfl rfl ?_
          refine v_iload_n C 3 dX6_stretchAt_25 rfl rfl ?_
          refine v_iadd C dX6_stretchAt_26 ?_
          refine v_top (fun x15 ex15 => ?_)
          have hx15 : x15.toInt = (y3.toInt + y4.toInt) := by rw [ex15]; exact ti_add (rfl : Int32.toInt y3 = _) (rfl : Int32.toInt y4 = _) (by omega) (by omega)
          obtain ⟨f16, hE16, hb16⟩ := hJ.2.2.getA (b := (b + 6)) (by omega) hb.t6
          refine v_ald (v := f16 ((y3.toInt + y4.toInt)).toNat) C (b + 6) dX6_stretchAt_27 (by omega) hE16 (ti_in hx15 (by omega) (by omega)) (by rw [ti_cl hx15]) ?_
          refine v_top (fun x17 _ => ?_)
          refine v_iload_n C 1 dX6_stretchAt_28 rfl rfl ?_
          refine b_icmp_gt C 36 dX6_stretchAt_29 (by decide) (rfl : Int32.toInt x17 = _) (rfl : Int32.toInt y2 = _) (fun c18 => ?_) (fun c18 => ?_)
          · refine v_iload_n C 3 dX6_stretchAt_36 rfl rfl ?_
            refine v_iconst (v := 1) C dX6_stretchAt_37 (by decide) ?_
            refine v_ishr C dX6_stretchAt_38 ?_
            refine v_top (fun x19 ex19 => ?_)
            have hx19 : x19.toInt = y4.toInt / 2 := by rw [ex19, ti_shr1]
            refine v_istore_n (lv' := [(0, .ref (ad b)), (1, .int y2), (2, .int y3), (3, .int x19)]) C [1, 2, 3, 0] dX6_stretchAt_39 rfl (by decide) rfl ?_
            refine v_goto C 6 dX6_stretchAt_40 (by decide) ?_
            exact ih7 y2 y3 x19  (by have := hx19; omega) (by have := hx19; omega) (by have := hx19; omega)
          · refine v_iload_n C 2 dX6_stretchAt_32 rfl rfl ?_
            refine v_iload_n C 3 dX6_stretchAt_33 rfl rfl ?_
            refine v_iadd C dX6_stretchAt_34 ?_
            refine v_top (fun x20 ex20 => ?_)
            have hx20 : x20.toInt = (y3.toInt + y4.toInt) := by rw [ex20]; exact ti_add (rfl : Int32.toInt y3 = _) (rfl : Int32.toInt y4 = _) (by omega) (by omega)
            refine v_istore_n (lv' := [(0, .ref (ad b)), (1, .int y2), (2, .int x20), (3, .int y4)]) C [1, 2, 0, 3] dX6_stretchAt_35 rfl (by decide) rfl ?_
            refine v_iload_n C 3 dX6_stretchAt_36 rfl rfl ?_
            refine v_iconst (v := 1) C dX6_stretchAt_37 (by decide) ?_
            refine v_ishr C dX6_stretchAt_38 ?_
            refine v_top (fun x21 ex21 => ?_)
            have hx21 : x21.toInt = y4.toInt / 2 := by rw [ex21, ti_shr1]
            refine v_istore_n (lv' := [(0, .ref (ad b)), (1, .int y2), (2, .int x20), (3, .int x21)]) C [1, 2, 3, 0] dX6_stretchAt_39 rfl (by decide) rfl ?_
            refine v_goto C 6 dX6_stretchAt_40 (by decide) ?_
            exact ih7 y2 x20 x21  (by have := hx20; have := hx21; omega) (by have := hx20; have := hx21; omega) (by have := hx20; have := hx21; omega)
  exact LP1 100000 x 0 512  (by have := (show (0 : Int32).toInt = 0 by decide); have := (show (512 : Int32).toInt = 512 by decide); omega) (by have := (show (0 : Int32).toInt = 0 by decide); have := (show (512 : Int32).toInt = 512 by decide); omega) (by have := (show (0 : Int32).toInt = 0 by decide); have := (show (512 : Int32).toInt = 512 by decide); omega)

set_option maxRecDepth 20000 in
theorem t_X6_offsetAt (l : Launch) (G : Gl) (ad : Nat → Nat) {k : Nat} {E0 E : Nat → va_E} (hJ : J8 G ad k E0 E) (b : Nat) (hb : ZC k b) (x : Int32) : CtI l G yX6_offsetAt cX6_offsetAt 2 .int 1 23 (98 + 9 * k) ad E [.ref (ad b), .int x] (fun r E' => ((-2147483648 : Int) ≤ r.toInt ∧ r.toInt ≤ 2147483647) ∧ E = E') := by
  refine CtI.of (by decide) (Nat.le_of_ble_eq_true rfl) (fun X A C => ?_)
  refine v_sub (lv' := [(0, .ref (ad b)), (1, .int x)]) [0, 1] rfl ?_
  have hk5 := hJ.1
  have hbn := hb.n
  refine v_aload_n C 0 dX6_offsetAt_0 rfl rfl ?_
  obtain ⟨i1, hE1, hb1⟩ := hJ.2.2.getO (b := b) (by omega) hb.t0
  refine v_getr C b dX6_offsetAt_1 fX6_33 (by omega) hE1 rfl rfl ?_
  refine v_aload_n C 0 dX6_offsetAt_4 rfl rfl ?_
  refine v_iload_n C 1 dX6_offsetAt_5 rfl rfl ?_
  refine v_cVp C dX6_offsetAt_6 lX6_64 mX6_stretchAt b (by omega) hE1 (by decide) rfl (t_X6_stretchAt l G ad hJ b hb x) ⟨by decide, by decide⟩ rfl (Nat.le_of_ble_eq_true rfl) ⟨Nat.zero_le _, Nat.zero_le _⟩ (fun r2 hp3 => ?_)
  obtain ⟨f4, hE4, hb4⟩ := hJ.2.2.getA (b := (b + 8)) (by omega) hb.t8
  refine v_ald (v := f4 (r2.toInt).toNat) C (b + 8) dX6_offsetAt_9 (by omega) hE4 (ti_in (rfl : Int32.toInt r2 = _) (by omega) (by omega)) (by rw [ti_cl (rfl : Int32.toInt r2 = _)]) ?_
  refine v_top (fun x5 _ => ?_)
  exact v_ret C dX6_offsetAt_10 rfl rfl ⟨(ti_any x5), rfl⟩

set_option maxRecDepth 20000 in
theorem t_X6_momentsOf (l : Launch) (G : Gl) (ad : Nat → Nat) {k : Nat} {E0 E : Nat → va_E} (hJ : J8 G ad k E0 E) (b : Nat) (hb : ZC k b) (x : Int32) : CtI l G yX6_momentsOf cX6_momentsOf 5 .int 1 23 (98 + 9 * k) ad E [.ref (ad b), .int x] (fun r E' => ((0 : Int) ≤ r.toInt ∧ r.toInt ≤ 801) ∧ E = E') := by
  refine CtI.of (by decide) (Nat.le_of_ble_eq_true rfl) (fun X A C => ?_)
  refine v_sub (lv' := [(0, .ref (ad b)), (1, .int x)]) [0, 1] rfl ?_
  have hk5 := hJ.1
  have hbn := hb.n
  refine v_iconst (v := 0) C dX6_momentsOf_0 (by decide) ?_
  refine v_istore_n (lv' := [(0, .ref (ad b)), (1, .int x), (2, .int 0)]) C [1, 2, 0] dX6_momentsOf_1 rfl (by decide) rfl ?_
  refine v_aload_n C 0 dX6_momentsOf_2 rfl rfl ?_
  refine v_iload_n C 1 dX6_momentsOf_3 rfl rfl ?_
  refine v_sipush (v := 720) C dX6_momentsOf_4 (by decide) ?_
  refine v_isub C dX6_momentsOf_7 ?_
  refine v_top (fun x1 _ => ?_)
  obtain ⟨i4, hE4, hb4⟩ := hJ.2.2.getO (b := b) (by omega) hb.t0
  refine v_cVp C dX6_momentsOf_8 lX6_64 mX6_stretchAt b (by omega) hE4 (by decide) rfl (t_X6_stretchAt l G ad hJ b hb x1) ⟨by decide, by decide⟩ rfl (Nat.le_of_ble_eq_true rfl) ⟨Nat.zero_le _, Nat.zero_le _⟩ (fun r2 hp3 => ?_)
  refine v_istore_n (lv' := [(0, .ref (ad b)), (1, .int x), (2, .int 0), (3, .int r2)]) C [1, 2, 3, 0] dX6_momentsOf_11 rfl (by decide) rfl ?_
  have LP5 : ∀ (t : Nat) (y6 : Int32) (y7 : Int32) (y8 : Int32), ((0 : Int) ≤ y7.toInt ∧ y7.toInt ≤ 801) → ((0 : Int) ≤ y8.toInt ∧ y8.toInt ≤ 801) → (y7.toInt ≤ y8.toInt) → 801 - y8.toInt < (t : Int) → V X G A 5 (QI X G A (98 + 9 * k) ad (fun r E' => ((0 : Int) ≤ r.toInt ∧ r.toInt ≤ 801) ∧ E = E')) (98 + 9 * k) ad 0 0 E 12 [(0, .ref (ad b)), (1, .int y6), (2, .int y7), (3, .int y8)] [] := by
    intro t14
    induction t14 with
    | zero => intro y6 y7 y8 hy7 hy8 hq9 hm13; exfalso; omega
    | succ t14 ih12 =>
      intro y6 y7 y8 hy7 hy8 hq9 hm13
      refine v_iload_n C 3 dX6_momentsOf_12 rfl rfl ?_
      refine v_aload_n C 0 dX6_momentsOf_13 rfl rfl ?_
      refine v_geti (v := i4 10) C b dX6_momentsOf_14 fX6_47 (by omega) hE4 rfl rfl ?_
      have hi4_10 : (0 : Int) ≤ (i4 10).toInt ∧ (i4 10).toInt ≤ 800 := hb4 10
      refine b_icmp_gt C 75 dX6_momentsOf_17 (by decide) (rfl : Int32.toInt y8 = _) (rfl : Int32.toInt (i4 10) = _) (fun c15 => ?_) (fun c15 => ?_)
      · refine v_iload_n C 2 dX6_momentsOf_75 rfl rfl ?_
        exact v_ret C dX6_momentsOf_76 rfl rfl ⟨(show (0 : Int) ≤ Int32.toInt y7 ∧ Int32.toInt y7 ≤ 801 by omega), rfl⟩
      · refine v_aload_n C 0 dX6_momentsOf_20 rfl rfl ?_
        refine v_getr C b dX6_momentsOf_21 fX6_27 (by omega) hE4 rfl rfl ?_
        refine v_iload_n C 3 dX6_momentsOf_24 rfl rfl ?_
        obtain ⟨f16, hE16, hb16⟩ := hJ.2.2.getA (b := (b + 6)) (by omega) hb.t6
        refine v_ald (v := f16 (y8.toInt).toNat) C (b + 6) dX6_momentsOf_25 (by omega) hE16 (ti_in (rfl : Int32.toInt y8 = _) (by omega) (by omega)) (by rw [ti_cl (rfl : Int32.toInt y8 = _)]) ?_
        refine v_top (fun x17 _ => ?_)
        refine v_iload_n C 1 dX6_momentsOf_26 rfl rfl ?_
        refine v_sipush (v := 720) C dX6_momentsOf_27 (by decide) ?_
        refine v_iadd C dX6_momentsOf_30 ?_
        refine v_top (fun x18 _ => ?_)
        refine b_icmp_gt C 75 dX6_momentsOf_31 (by decide) (rfl : Int32.toInt x17 = _) (rfl : Int32.toInt x18 = _) (fun c19 => ?_) (fun c19 => ?_)
        · refine v_iload_n C 2 dX6_momentsOf_75 rfl rfl ?_
          exact v_ret C dX6_momentsOf_76 rfl rfl ⟨(show (0 : Int) ≤ Int32.toInt y7 ∧ Int32.toInt y7 ≤ 801 by omega), rfl⟩
        · refine v_iload_n C 1 dX6_momentsOf_34 rfl rfl ?_
          refine v_aload_n C 0 dX6_momentsOf_35 rfl rfl ?_
          refine v_getr C b dX6_momentsOf_36 fX6_33 (by omega) hE4 rfl rfl ?_
          refine v_iload_n C 3 dX6_momentsOf_39 rfl rfl ?_
          obtain ⟨f20, hE20, hb20⟩ := hJ.2.2.getA (b := (b + 8)) (by omega) hb.t8
          refine v_ald (v := f20 (y8.toInt).toNat) C (b + 8) dX6_momentsOf_40 (by omega) hE20 (ti_in (rfl : Int32.toInt y8 = _) (by omega) (by omega)) (by rw [ti_cl (rfl : Int32.toInt y8 = _)]) ?_
          refine v_top (fun x21 _ => ?_)
          refine v_isub C dX6_momentsOf_41 ?_
          refine v_top (fun x22 _ => ?_)
          refine v_istore (lv' := [(0, .ref (ad b)), (1, .int y6), (2, .int y7), (3, .int y8), (4, .int x22)]) C [1, 2, 3, 4, 0] dX6_momentsOf_42 (by decide) rfl ?_
          refine v_iload C 4 dX6_momentsOf_44 rfl ?_
          refine v_aload_n C 0 dX6_momentsOf_46 rfl rfl ?_
          refine v_getr C b dX6_momentsOf_47 fX6_27 (by omega) hE4 rfl rfl ?_
          refine v_iload_n C 3 dX6_momentsOf_50 rfl rfl ?_
          refine v_ald (v := f16 (y8.toInt).toNat) C (b + 6) dX6_momentsOf_51 (by omega) hE16 (ti_in (rfl : Int32.toInt y8 = _) (by omega) (by omega)) (by rw [ti_cl (rfl : Int32.toInt y8 = _)]) ?_
          refine v_top (fun x23 _ => ?_)
          refine b_icmp_lt C 69 dX6_momentsOf_52 (by decide) (rfl : Int32.toInt x22 = _) (rfl : Int32.toInt x23 = _) (fun c24 => ?_) (fun c24 => ?_)
          · obtain ⟨x25, ex25⟩ : ∃ y : Int32, y = y8 + 1 := ⟨_, rfl⟩
            have hx25 : x25.toInt = (y8.toInt + 1) := by rw [ex25]; exact ti_add (rfl : Int32.toInt y8 = _) (show (1 : Int32).toInt = 1 by decide) (by omega) (by omega)
            refine v_iinc (v := x25) (lv' := [(0, .ref (ad b)), (1, .int y6), (2, .int y7), (3, .int x25), (4, .int x22)]) C 3 [1, 2, 3, 0, 4] dX6_momentsOf_69 rfl (ex25.symm) (by decide) rfl ?_
            refine v_goto C 12 dX6_momentsOf_72 (by decide) ?_
            refine v_sub (lv' := [(0, .ref (ad b)), (1, .int y6), (2, .int y7), (3, .int x25)]) [0, 1, 2, 3] rfl ?_
            exact ih12 y6 y7 x25  (by have := hx25; omega) (by have := hx25; omega) (by have := hx25; omega) (by have := hx25; omega)
          · refine v_iload C 4 dX6_momentsOf_55 rfl ?_
            refine v_aload_n C 0 dX6_momentsOf_57 rfl rfl ?_
            refine v_getr C b dX6_momentsOf_58 fX6_30 (by omega) hE4 rfl rfl ?_
            refine v_iload_n C 3 dX6_momentsOf_61 rfl rfl ?_
            obtain ⟨f26, hE26, hb26⟩ := hJ.2.2.getA (b := (b + 7)) (by omega) hb.t7
            refine v_ald (v := f26 (y8.toInt).toNat) C (b + 7) dX6_momentsOf_62 (by omega) hE26 (ti_in (rfl : Int32.toInt y8 = _) (by omega) (by omega)) (by rw [ti_cl (rfl : Int32.toInt y8 = _)]) ?_
            refine v_top (fun x27 _ => ?_)
            refine b_icmp_ge C 69 dX6_momentsOf_63 (by decide) (rfl : Int32.toInt x22 = _) (rfl : Int32.toInt x27 = _) (fun c28 => ?_) (fun c28 => ?_)
            · obtain ⟨x29, ex29⟩ : ∃ y : Int32, y = y8 + 1 := ⟨_, rfl⟩
              have hx29 : x29.toInt = (y8.toInt + 1) := by rw [ex29]; exact ti_add (rfl : Int32.toInt y8 = _) (show (1 : Int32).toInt = 1 by decide) (by omega) (by omega)
              refine v_iinc (v := x29) (lv' := [(0, .ref (ad b)), (1, .int y6), (2, .int y7), (3, .int x29), (4, .int x22)]) C 3 [1, 2, 3, 0, 4] dX6_momentsOf_69 rfl (ex29.symm) (by decide) rfl ?_
              refine v_goto C 12 dX6_momentsOf_72 (by decide) ?_
              refine v_sub (lv' := [(0, .ref (ad b)), (1, .int y6), (2, .int y7), (3, .int x29)]) [0, 1, 2, 3] rfl ?_
              exact ih12 y6 y7 x29  (by have := hx29; omega) (by have := hx29; omega) (by have := hx29; omega) (by have := hx29; omega)
            · obtain ⟨x30, ex30⟩ : ∃ y : Int32, y = y7 + 1 := ⟨_, rfl⟩
              have hx30 : x30.toInt = (y7.toInt + 1) := by rw [ex30]; exact ti_add (rfl : Int32.toInt y7 = _) (show (1 : Int32).toInt = 1 by decide) (by omega) (by omega)
              refine v_iinc (v := x30) (lv' := [(0, .ref (ad b)), (1, .int y6), (2, .int x30), (3, .int y8), (4, .int x22)]) C 2 [1, 2, 0, 3, 4] dX6_momentsOf_66 rfl (ex30.symm) (by decide) rfl ?_
              obtain ⟨x31, ex31⟩ : ∃ y : Int32, y = y8 + 1 := ⟨_, rfl⟩
              have hx31 : x31.toInt = (y8.toInt + 1) := by rw [ex31]; exact ti_add (rfl : Int32.toInt y8 = _) (show (1 : Int32).toInt = 1 by decide) (by omega) (by omega)
              refine v_iinc (v := x31) (lv' := [(0, .ref (ad b)), (1, .int y6), (2, .int x30), (3, .int x31), (4, .int x22)]) C 3 [1, 2, 3, 0, 4] dX6_momentsOf_69 rfl (ex31.symm) (by decide) rfl ?_
              refine v_goto C 12 dX6_momentsOf_72 (by decide) ?_
              refine v_sub (lv' := [(0, .ref (ad b)), (1, .int y6), (2, .int x30), (3, .int x31)]) [0, 1, 2, 3] rfl ?_
              exact ih12 y6 x30 x31  (by have := hx30; have := hx31; omega) (by have := hx30; have := hx31; omega) (by have := hx30; have := hx31; omega) (by have := hx30; have := hx31; omega)
  exact LP5 100000 x 0 r2  (by have := (show (0 : Int32).toInt = 0 by decide); omega) (by have := (show (0 : Int32).toInt = 0 by decide); omega) (by have := (show (0 : Int32).toInt = 0 by decide); omega) (by have := (show (0 : Int32).toInt = 0 by decide); omega)

set_option maxRecDepth 20000 in
theorem t_X6_momentOf (l : Launch) (G : Gl) (ad : Nat → Nat) {k : Nat} {E0 E : Nat → va_E} (hJ : J8 G ad k E0 E) (b : Nat) (hb : ZC k b) (x : Int32) (y : Int32) : CtI l G yX6_momentOf cX6_momentOf 6 .int 1 23 (98 + 9 * k) ad E [.ref (ad b), .int x, .int y] (fun r E' => ((-2147483648 : Int) ≤ r.toInt ∧ r.toInt ≤ 2147483647) ∧ E = E') := by
  refine CtI.of (by decide) (Nat.le_of_ble_eq_true rfl) (fun X A C => ?_)
  refine v_sub (lv' := [(0, .ref (ad b)), (1, .int x), (2, .int y)]) [0, 1, 2] rfl ?_
  have hk5 := hJ.1
  have hbn := hb.n
  refine v_iconst (v := 0) C dX6_momentOf_0 (by decide) ?_
  refine v_istore_n (lv' := [(0, .ref (ad b)), (1, .int x), (2, .int y), (3, .int 0)]) C [1, 2, 3, 0] dX6_momentOf_1 rfl (by decide) rfl ?_
  refine v_aload_n C 0 dX6_momentOf_2 rfl rfl ?_
  refine v_iload_n C 1 dX6_momentOf_3 rfl rfl ?_
  refine v_sipush (v := 720) C dX6_momentOf_4 (by decide) ?_
  refine v_isub C dX6_momentOf_7 ?_
  refine v_top (fun x1 _ => ?_)
  obtain ⟨i4, hE4, hb4⟩ := hJ.2.2.getO (b := b) (by omega) hb.t0
  refine v_cVp C dX6_momentOf_8 lX6_64 mX6_stretchAt b (by omega) hE4 (by decide) rfl (t_X6_stretchAt l G ad hJ b hb x1) ⟨by decide, by decide⟩ rfl (Nat.le_of_ble_eq_true rfl) ⟨Nat.zero_le _, Nat.zero_le _⟩ (fun r2 hp3 => ?_)
  refine v_istore (lv' := [(0, .ref (ad b)), (1, .int x), (2, .int y), (3, .int 0), (4, .int r2)]) C [1, 2, 3, 4, 0] dX6_momentOf_11 (by decide) rfl ?_
  have LP5 : ∀ (t : Nat) (y6 : Int32) (y7 : Int32) (y8 : Int32) (y9 : Int32), ((0 : Int) ≤ y8.toInt ∧ y8.toInt ≤ 801) → ((0 : Int) ≤ y9.toInt ∧ y9.toInt ≤ 801) → (y8.toInt ≤ y9.toInt) → 801 - y9.toInt < (t : Int) → V X G A 6 (QI X G A (98 + 9 * k) ad (fun r E' => ((-2147483648 : Int) ≤ r.toInt ∧ r.toInt ≤ 2147483647) ∧ E = E')) (98 + 9 * k) ad 0 0 E 13 [(0, .ref (ad b)), (1, .int y6), (2, .int y7), (3, .int y8), (4, .int y9)] [] := by
    intro t15
    induction t15 with
    | zero => intro y6 y7 y8 y9 hy8 hy9 hq10 hm14; exfalso; omega
    | succ t15 ih13 =>
      intro y6 y7 y8 y9 hy8 hy9 hq10 hm14
      refine v_iload C 4 dX6_momentOf_13 rfl ?_
      refine v_aload_n C 0 dX6_momentOf_15 rfl rfl ?_
      refine v_geti (v := i4 10) C b dX6_momentOf_16 fX6_47 (by omega) hE4 rfl rfl ?_
      have hi4_10 : (0 : Int) ≤ (i4 10).toInt ∧ (i4 10).toInt ≤ 800 := hb4 10
      refine b_icmp_gt C 89 dX6_momentOf_19 (by decide) (rfl : Int32.toInt y9 = _) (rfl : Int32.toInt (i4 10) = _) (fun c16 => ?_) (fun c16 => ?_)
      · refine v_iconst (v := (-1)) C dX6_momentOf_89 (by decide) ?_
        exact v_ret C dX6_momentOf_90 rfl rfl ⟨(ti_any (-1)), rfl⟩
      · refine v_aload_n C 0 dX6_momentOf_22 rfl rfl ?_
        refine v_getr C b dX6_momentOf_23 fX6_27 (by omega) hE4 rfl rfl ?_
        refine v_iload C 4 dX6_momentOf_26 rfl ?_
        obtain ⟨f17, hE17, hb17⟩ := hJ.2.2.getA (b := (b + 6)) (by omega) hb.t6
        refine v_ald (v := f17 (y9.toInt).toNat) C (b + 6) dX6_momentOf_28 (by omega) hE17 (ti_in (rfl : Int32.toInt y9 = _) (by omega) (by omega)) (by rw [ti_cl (rfl : Int32.toInt y9 = _)]) ?_
        refine v_top (fun x18 _ => ?_)
        refine v_iload_n C 1 dX6_momentOf_29 rfl rfl ?_
        refine v_sipush (v := 720) C dX6_momentOf_30 (by decide) ?_
        refine v_iadd C dX6_momentOf_33 ?_
        refine v_top (fun x19 _ => ?_)
        refine b_icmp_gt C 89 dX6_momentOf_34 (by decide) (rfl : Int32.toInt x18 = _) (rfl : Int32.toInt x19 = _) (fun c20 => ?_) (fun c20 => ?_)
        · refine v_iconst (v := (-1)) C dX6_momentOf_89 (by decide) ?_
          exact v_ret C dX6_momentOf_90 rfl rfl ⟨(ti_any (-1)), rfl⟩
        · refine v_iload_n C 1 dX6_momentOf_37 rfl rfl ?_
          refine v_aload_n C 0 dX6_momentOf_38 rfl rfl ?_
          refine v_getr C b dX6_momentOf_39 fX6_33 (by omega) hE4 rfl rfl ?_
          refine v_iload C 4 dX6_momentOf_42 rfl ?_
          obtain ⟨f21, hE21, hb21⟩ := hJ.2.2.getA (b := (b + 8)) (by omega) hb.t8
          refine v_ald (v := f21 (y9.toInt).toNat) C (b + 8) dX6_momentOf_44 (by omega) hE21 (ti_in (rfl : Int32.toInt y9 = _) (by omega) (by omega)) (by rw [ti_cl (rfl : Int32.toInt y9 = _)]) ?_
          refine v_top (fun x22 _ => ?_)
          refine v_isub C dX6_momentOf_45 ?_
          refine v_top (fun x23 _ => ?_)
          refine v_istore (lv' := [(0, .ref (ad b)), (1, .int y6), (2, .int y7), (3, .int y8), (4, .int y9), (5, .int x23)]) C [1, 2, 3, 4, 5, 0] dX6_momentOf_46 (by decide) rfl ?_
          refine v_iload C 5 dX6_momentOf_48 rfl ?_
          refine v_aload_n C 0 dX6_momentOf_50 rfl rfl ?_
          refine v_getr C b dX6_momentOf_51 fX6_27 (by omega) hE4 rfl rfl ?_
          refine v_iload C 4 dX6_momentOf_54 rfl ?_
          refine v_ald (v := f17 (y9.toInt).toNat) C (b + 6) dX6_momentOf_56 (by omega) hE17 (ti_in (rfl : Int32.toInt y9 = _) (by omega) (by omega)) (by rw [ti_cl (rfl : Int32.toInt y9 = _)]) ?_
          refine v_top (fun x24 _ => ?_)
          refine b_icmp_lt C 83 dX6_momentOf_57 (by decide) (rfl : Int32.toInt x23 = _) (rfl : Int32.toInt x24 = _) (fun c25 => ?_) (fun c25 => ?_)
          · obtain ⟨x26, ex26⟩ : ∃ y : Int32, y = y9 + 1 := ⟨_, rfl⟩
            have hx26 : x26.toInt = (y9.toInt + 1) := by rw [ex26]; exact ti_add (rfl : Int32.toInt y9 = _) (show (1 : Int32).toInt = 1 by decide) (by omega) (by omega)
            refine v_iinc (v := x26) (lv' := [(0, .ref (ad b)), (1, .int y6), (2, .int y7), (3, .int y8), (4, .int x26), (5, .int x23)]) C 4 [1, 2, 3, 4, 0, 5] dX6_momentOf_83 rfl (ex26.symm) (by decide) rfl ?_
            refine v_goto C 13 dX6_momentOf_86 (by decide) ?_
            refine v_sub (lv' := [(0, .ref (ad b)), (1, .int y6), (2, .int y7), (3, .int y8), (4, .int x26)]) [0, 1, 2, 3, 4] rfl ?_
            exact ih13 y6 y7 y8 x26  (by have := hx26; omega) (by have := hx26; omega) (by have := hx26; omega) (by have := hx26; omega)
          · refine v_iload C 5 dX6_momentOf_60 rfl ?_
            refine v_aload_n C 0 dX6_momentOf_62 rfl rfl ?_
            refine v_getr C b dX6_momentOf_63 fX6_30 (by omega) hE4 rfl rfl ?_
            refine v_iload C 4 dX6_momentOf_66 rfl ?_
            obtain ⟨f27, hE27, hb27⟩ := hJ.2.2.getA (b := (b + 7)) (by omega) hb.t7
            refine v_ald (v := f27 (y9.toInt).toNat) C (b + 7) dX6_momentOf_68 (by omega) hE27 (ti_in (rfl : Int32.toInt y9 = _) (by omega) (by omega)) (by rw [ti_cl (rfl : Int32.toInt y9 = _)]) ?_
            refine v_top (fun x28 _ => ?_)
            refine b_icmp_ge C 83 dX6_momentOf_69 (by decide) (rfl : Int32.toInt x23 = _) (rfl : Int32.toInt x28 = _) (fun c29 => ?_) (fun c29 => ?_)
            · obtain ⟨x30, ex30⟩ : ∃ y : Int32, y = y9 + 1 := ⟨_, rfl⟩
              have hx30 : x30.toInt = (y9.toInt + 1) := by rw [ex30]; exact ti_add (rfl : Int32.toInt y9 = _) (show (1 : Int32).toInt = 1 by decide) (by omega) (by omega)
              refine v_iinc (v := x30) (lv' := [(0, .ref (ad b)), (1, .int y6), (2, .int y7), (3, .int y8), (4, .int x30), (5, .int x23)]) C 4 [1, 2, 3, 4, 0, 5] dX6_momentOf_83 rfl (ex30.symm) (by decide) rfl ?_
              refine v_goto C 13 dX6_momentOf_86 (by decide) ?_
              refine v_sub (lv' := [(0, .ref (ad b)), (1, .int y6), (2, .int y7), (3, .int y8), (4, .int x30)]) [0, 1, 2, 3, 4] rfl ?_
              exact ih13 y6 y7 y8 x30  (by have := hx30; omega) (by have := hx30; omega) (by have := hx30; omega) (by have := hx30; omega)
            · refine v_iload_n C 3 dX6_momentOf_72 rfl rfl ?_
              refine v_iload_n C 2 dX6_momentOf_73 rfl rfl ?_
              refine b_icmp_ne C 80 dX6_momentOf_74 (by decide) (rfl : Int32.toInt y8 = _) (rfl : Int32.toInt y7 = _) (fun c31 => ?_) (fun c31 => ?_)
              · obtain ⟨x32, ex32⟩ : ∃ y : Int32, y = y8 + 1 := ⟨_, rfl⟩
                have hx32 : x32.toInt = (y8.toInt + 1) := by rw [ex32]; exact ti_add (rfl : Int32.toInt y8 = _) (show (1 : Int32).toInt = 1 by decide) (by omega) (by omega)
                refine v_iinc (v := x32) (lv' := [(0, .ref (ad b)), (1, .int y6), (2, .int y7), (3, .int x32), (4, .int y9), (5, .int x23)]) C 3 [1, 2, 3, 0, 4, 5] dX6_momentOf_80 rfl (ex32.symm) (by decide) rfl ?_
                obtain ⟨x33, ex33⟩ : ∃ y : Int32, y = y9 + 1 := ⟨_, rfl⟩
                have hx33 : x33.toInt = (y9.toInt + 1) := by rw [ex33]; exact ti_add (rfl : Int32.toInt y9 = _) (show (1 : Int32).toInt = 1 by decide) (by omega) (by omega)
                refine v_iinc (v := x33) (lv' := [(0, .ref (ad b)), (1, .int y6), (2, .int y7), (3, .int x32), (4, .int x33), (5, .int x23)]) C 4 [1, 2, 3, 4, 0, 5] dX6_momentOf_83 rfl (ex33.symm) (by decide) rfl ?_
                refine v_goto C 13 dX6_momentOf_86 (by decide) ?_
                refine v_sub (lv' := [(0, .ref (ad b)), (1, .int y6), (2, .int y7), (3, .int x32), (4, .int x33)]) [0, 1, 2, 3, 4] rfl ?_
                exact ih13 y6 y7 x32 x33  (by have := hx32; have := hx33; omega) (by have := hx32; have := hx33; omega) (by have := hx32; have := hx33; omega) (by have := hx32; have := hx33; omega)
              · refine v_iload C 5 dX6_momentOf_77 rfl ?_
                exact v_ret C dX6_momentOf_79 rfl rfl ⟨(ti_any x23), rfl⟩
  exact LP5 100000 x y 0 r2  (by have := (show (0 : Int32).toInt = 0 by decide); omega) (by have := (show (0 : Int32).toInt = 0 by decide); omega) (by have := (show (0 : Int32).toInt = 0 by decide); omega) (by have := (show (0 : Int32).toInt = 0 by decide); omega)

set_option maxRecDepth 20000 in
theorem t_X6_firstBehind (l : Launch) (G : Gl) (ad : Nat → Nat) {k : Nat} {E0 E : Nat → va_E} (hJ : J8 G ad k E0 E) (b : Nat) (hb : ZC k b) (x : Int32) (y : Int32) (hy : (0 : Int) ≤ y.toInt ∧ y.toInt ≤ 800) : CtI l G yX6_firstBehind cX6_firstBehind 5 .int 1 21 (98 + 9 * k) ad E [.ref (ad b), .int x, .int y] (fun r E' => ((-2147483648 : Int) ≤ r.toInt ∧ r.toInt ≤ 2147483647) ∧ E = E') := by
  refine CtI.of (by decide) (Nat.le_of_ble_eq_true rfl) (fun X A C => ?_)
  refine v_sub (lv' := [(0, .ref (ad b)), (1, .int x), (2, .int y)]) [0, 1, 2] rfl ?_
  have hk5 := hJ.1
  have hbn := hb.n
  refine v_iload_n C 2 dX6_firstBehind_0 rfl rfl ?_
  refine v_istore_n (lv' := [(0, .ref (ad b)), (1, .int x), (2, .int y), (3, .int y)]) C [1, 2, 3, 0] dX6_firstBehind_1 rfl (by decide) rfl ?_
  have LP1 : ∀ (t : Nat) (y2 : Int32) (y3 : Int32) (y4 : Int32), ((0 : Int) ≤ y3.toInt ∧ y3.toInt ≤ 800) → ((0 : Int) ≤ y4.toInt ∧ y4.toInt ≤ 801) → 801 - y4.toInt < (t : Int) → V X G A 5 (QI X G A (98 + 9 * k) ad (fun r E' => ((-2147483648 : Int) ≤ r.toInt ∧ r.toInt ≤ 2147483647) ∧ E = E')) (98 + 9 * k) ad 0 0 E 2 [(0, .ref (ad b)), (1, .int y2), (2, .int y3), (3, .int y4)] [] := by
    intro t9
    induction t9 with
    | zero => intro y2 y3 y4 hy3 hy4 hm8; exfalso; omega
    | succ t9 ih7 =>
      intro y2 y3 y4 hy3 hy4 hm8
      refine v_iload_n C 3 dX6_firstBehind_2 rfl rfl ?_
      refine v_aload_n C 0 dX6_firstBehind_3 rfl rfl ?_
      obtain ⟨i10, hE10, hb10⟩ := hJ.2.2.getO (b := b) (by omega) hb.t0
      refine v_geti (v := i10 10) C b dX6_firstBehind_4 fX6_47 (by omega) hE10 rfl rfl ?_
      have hi10_10 : (0 : Int) ≤ (i10 10).toInt ∧ (i10 10).toInt ≤ 800 := hb10 10
      refine b_icmp_gt C 51 dX6_firstBehind_7 (by decide) (rfl : Int32.toInt y4 = _) (rfl : Int32.toInt (i10 10) = _) (fun c11 => ?_) (fun c11 => ?_)
      · refine v_iconst (v := (-1)) C dX6_firstBehind_51 (by decide) ?_
        exact v_ret C dX6_firstBehind_52 rfl rfl ⟨(ti_any (-1)), rfl⟩
      · refine v_aload_n C 0 dX6_firstBehind_10 rfl rfl ?_
        refine v_getr C b dX6_firstBehind_11 fX6_27 (by omega) hE10 rfl rfl ?_
        refine v_iload_n C 3 dX6_firstBehind_14 rfl rfl ?_
        obtain ⟨f12, hE12, hb12⟩ := hJ.2.2.getA (b := (b + 6)) (by omega) hb.t6
        refine v_ald (v := f12 (y4.toInt).toNat) C (b + 6) dX6_firstBehind_15 (by omega) hE12 (ti_in (rfl : Int32.toInt y4 = _) (by omega) (by omega)) (by rw [ti_cl (rfl : Int32.toInt y4 = _)]) ?_
        refine v_top (fun x13 _ => ?_)
        refine v_iload_n C 1 dX6_firstBehind_16 rfl rfl ?_
        refine v_iconst (v := 1) C dX6_firstBehind_17 (by decide) ?_
        refine v_iadd C dX6_firstBehind_18 ?_
        refine v_top (fun x14 _ => ?_)
        refine v_aload_n C 0 dX6_firstBehind_19 rfl rfl ?_
        refine v_getr C b dX6_firstBehind_20 fX6_33 (by omega) hE10 rfl rfl ?_
        refine v_iload_n C 3 dX6_firstBehind_23 rfl rfl ?_
        obtain ⟨f15, hE15, hb15⟩ := hJ.2.2.getA (b := (b + 8)) (by omega) hb.t8
        refine v_ald (v := f15 (y4.toInt).toNat) C (b + 8) dX6_firstBehind_24 (by omega) hE15 (ti_in (rfl : Int32.toInt y4 = _) (by omega) (by omega)) (by rw [ti_cl (rfl : Int32.toInt y4 = _)]) ?_
        refine v_top (fun x16 _ => ?_)
        refine v_isub C dX6_firstBehind_25 ?_
        refine v_top (fun x17 _ => ?_)
        refine v_mmax C dX6_firstBehind_26 lX6_73 mJ9_max_7cf53.2.2.1 mJ9_max_7cf53.2.1 mJ9_max_7cf53.1 ⟨by decide, Nat.le_of_ble_eq_true rfl⟩ ⟨Nat.zero_le _, Nat.zero_le _⟩ ?_
        refine v_top (fun x18 ex18 => ?_)
        have hx18 : x13.toInt ≤ x18.toInt ∧ x17.toInt ≤ x18.toInt ∧ (x18.toInt = x13.toInt ∨ x18.toInt = x17.toInt) := by rw [ex18]; exact mmax_b (rfl : Int32.toInt x13 = _) (rfl : Int32.toInt x17 = _)
        refine v_istore (lv' := [(0, .ref (ad b)), (1, .int y2), (2, .int y3), (3, .int y4), (4, .int x18)]) C [1, 2, 3, 4, 0] dX6_firstBehind_29 (by decide) rfl ?_
        refine v_iload C 4 dX6_firstBehind_31 rfl ?_
        refine v_aload_n C 0 dX6_firstBehind_33 rfl rfl ?_
        refine v_getr C b dX6_firstBehind_34 fX6_30 (by omega) hE10 rfl rfl ?_
        refine v_iload_n C 3 dX6_firstBehind_37 rfl rfl ?_
        obtain ⟨f19, hE19, hb19⟩ := hJ.2.2.getA (b := (b + 7)) (by omega) hb.t7
        refine v_ald (v := f19 (y4.toInt).toNat) C (b + 7) dX6_firstBehind_38 (by omega) hE19 (ti_in (rfl : Int32.toInt y4 = _) (by omega) (by omega)) (by rw [ti_cl (rfl : Int32.toInt y4 = _)]) ?_
        refine v_top (fun x20 _ => ?_)
        refine b_icmp_ge C 45 dX6_firstBehind_39 (by decide) (rfl : Int32.toInt x18 = _) (rfl : Int32.toInt x20 = _) (fun c21 => ?_) (fun c21 => ?_)
        · obtain ⟨x22, ex22⟩ : ∃ y : Int32, y = y4 + 1 := ⟨_, rfl⟩
          have hx22 : x22.toInt = (y4.toInt + 1) := by rw [ex22]; exact ti_add (rfl : Int32.toInt y4 = _) (show (1 : Int32).toInt = 1 by decide) (by omega) (by omega)
          refine v_iinc (v := x22) (lv' := [(0, .ref (ad b)), (1, .int y2), (2, .int y3), (3, .int x22), (4, .int x18)]) C 3 [1, 2, 3, 0, 4] dX6_firstBehind_45 rfl (ex22.symm) (by decide) rfl ?_
          refine v_goto C 2 dX6_firstBehind_48 (by decide) ?_
          refine v_sub (lv' := [(0, .ref (ad b)), (1, .int y2), (2, .int y3), (3, .int x22)]) [0, 1, 2, 3] rfl ?_
          exact ih7 y2 y3 x22  (by have := hx22; omega) (by have := hx22; omega) (by have := hx22; omega)
        · refine v_iload C 4 dX6_firstBehind_42 rfl ?_
          exact v_ret C dX6_firstBehind_44 rfl rfl ⟨(ti_any x18), rfl⟩
  exact LP1 100000 x y y  (by omega) (by omega) (by omega)

set_option maxRecDepth 20000 in
theorem t_X6_lastAhead (l : Launch) (G : Gl) (ad : Nat → Nat) {k : Nat} {E0 E : Nat → va_E} (hJ : J8 G ad k E0 E) (b : Nat) (hb : ZC k b) (x : Int32) : CtI l G yX6_lastAhead cX6_lastAhead 4 .int 1 21 (98 + 9 * k) ad E [.ref (ad b), .int x] (fun r E' => ((-2147483648 : Int) ≤ r.toInt ∧ r.toInt ≤ 2147483647) ∧ E = E') := by
  refine CtI.of (by decide) (Nat.le_of_ble_eq_true rfl) (fun X A C => ?_)
  refine v_sub (lv' := [(0, .ref (ad b)), (1, .int x)]) [0, 1] rfl ?_
  have hk5 := hJ.1
  have hbn := hb.n
  refine v_aload_n C 0 dX6_lastAhead_0 rfl rfl ?_
  obtain ⟨i1, hE1, hb1⟩ := hJ.2.2.getO (b := b) (by omega) hb.t0
  refine v_geti (v := i1 10) C b dX6_lastAhead_1 fX6_47 (by omega) hE1 rfl rfl ?_
  have hi1_10 : (0 : Int) ≤ (i1 10).toInt ∧ (i1 10).toInt ≤ 800 := hb1 10
  refine v_istore_n (lv' := [(0, .ref (ad b)), (1, .int x), (2, .int (i1 10))]) C [1, 2, 0] dX6_lastAhead_4 rfl (by decide) rfl ?_
  have LP2 : ∀ (t : Nat) (y3 : Int32) (y4 : Int32), ((-1 : Int) ≤ y4.toInt ∧ y4.toInt ≤ 800) → y4.toInt + 1 < (t : Int) → V X G A 4 (QI X G A (98 + 9 * k) ad (fun r E' => ((-2147483648 : Int) ≤ r.toInt ∧ r.toInt ≤ 2147483647) ∧ E = E')) (98 + 9 * k) ad 0 0 E 5 [(0, .ref (ad b)), (1, .int y3), (2, .int y4)] [] := by
    intro t9
    induction t9 with
    | zero => intro y3 y4 hy4 hm8; exfalso; omega
    | succ t9 ih7 =>
      intro y3 y4 hy4 hm8
      refine v_iload_n C 2 dX6_lastAhead_5 rfl rfl ?_
      refine b_if_lt C 47 dX6_lastAhead_6 (by decide) (rfl : Int32.toInt y4 = _) (fun c10 => ?_) (fun c10 => ?_)
      · refine v_iconst (v := (-1)) C dX6_lastAhead_47 (by decide) ?_
        exact v_ret C dX6_lastAhead_48 rfl rfl ⟨(ti_any (-1)), rfl⟩
      · refine v_aload_n C 0 dX6_lastAhead_9 rfl rfl ?_
        refine v_getr C b dX6_lastAhead_10 fX6_30 (by omega) hE1 rfl rfl ?_
        refine v_iload_n C 2 dX6_lastAhead_13 rfl rfl ?_
        obtain ⟨f11, hE11, hb11⟩ := hJ.2.2.getA (b := (b + 7)) (by omega) hb.t7
        refine v_ald (v := f11 (y4.toInt).toNat) C (b + 7) dX6_lastAhead_14 (by omega) hE11 (ti_in (rfl : Int32.toInt y4 = _) (by omega) (by omega)) (by rw [ti_cl (rfl : Int32.toInt y4 = _)]) ?_
        refine v_top (fun x12 _ => ?_)
        refine v_iload_n C 1 dX6_lastAhead_15 rfl rfl ?_
        refine v_aload_n C 0 dX6_lastAhead_16 rfl rfl ?_
        refine v_getr C b dX6_lastAhead_17 fX6_33 (by omega) hE1 rfl rfl ?_
        refine v_iload_n C 2 dX6_lastAhead_20 rfl rfl ?_
        obtain ⟨f13, hE13, hb13⟩ := hJ.2.2.getA (b := (b + 8)) (by omega) hb.t8
        refine v_ald (v := f13 (y4.toInt).toNat) C (b + 8) dX6_lastAhead_21 (by omega) hE13 (ti_in (rfl : Int32.toInt y4 = _) (by omega) (by omega)) (by rw [ti_cl (rfl : Int32.toInt y4 = _)]) ?_
        refine v_top (fun x14 _ => ?_)
        refine v_isub C dX6_lastAhead_22 ?_
        refine v_top (fun x15 _ => ?_)
        refine v_mmin C dX6_lastAhead_23 lX6_58 mJ9_min_7cf53.2.2.1 mJ9_min_7cf53.2.1 mJ9_min_7cf53.1 ⟨by decide, Nat.le_of_ble_eq_true rfl⟩ ⟨Nat.zero_le _, Nat.zero_le _⟩ ?_
        refine v_top (fun x16 ex16 => ?_)
        have hx16 : x16.toInt ≤ x12.toInt ∧ x16.toInt ≤ x15.toInt ∧ (x16.toInt = x12.toInt ∨ x16.toInt = x15.toInt) := by rw [ex16]; exact mmin_b (rfl : Int32.toInt x12 = _) (rfl : Int32.toInt x15 = _)
        refine v_iconst (v := 1) C dX6_lastAhead_26 (by decide) ?_
        refine v_isub C dX6_lastAhead_27 ?_
        refine v_top (fun x17 _ => ?_)
        refine v_istore_n (lv' := [(0, .ref (ad b)), (1, .int y3), (2, .int y4), (3, .int x17)]) C [1, 2, 3, 0] dX6_lastAhead_28 rfl (by decide) rfl ?_
        refine v_iload_n C 3 dX6_lastAhead_29 rfl rfl ?_
        refine v_aload_n C 0 dX6_lastAhead_30 rfl rfl ?_
        refine v_getr C b dX6_lastAhead_31 fX6_27 (by omega) hE1 rfl rfl ?_
        refine v_iload_n C 2 dX6_lastAhead_34 rfl rfl ?_
        obtain ⟨f18, hE18, hb18⟩ := hJ.2.2.getA (b := (b + 6)) (by omega) hb.t6
        refine v_ald (v := f18 (y4.toInt).toNat) C (b + 6) dX6_lastAhead_35 (by omega) hE18 (ti_in (rfl : Int32.toInt y4 = _) (by omega) (by omega)) (by rw [ti_cl (rfl : Int32.toInt y4 = _)]) ?_
        refine v_top (fun x19 _ => ?_)
        refine b_icmp_lt C 41 dX6_lastAhead_36 (by decide) (rfl : Int32.toInt x17 = _) (rfl : Int32.toInt x19 = _) (fun c20 => ?_) (fun c20 => ?_)
        · obtain ⟨x21, ex21⟩ : ∃ y : Int32, y = y4 + (-1) := ⟨_, rfl⟩
          have hx21 : x21.toInt = (y4.toInt + (-1)) := by rw [ex21]; exact ti_add (rfl : Int32.toInt y4 = _) (show ((-1) : Int32).toInt = (-1) by decide) (by omega) (by omega)
          refine v_iinc (v := x21) (lv' := [(0, .ref (ad b)), (1, .int y3), (2, .int x21), (3, .int x17)]) C 2 [1, 2, 0, 3] dX6_lastAhead_41 rfl (ex21.symm) (by decide) rfl ?_
          refine v_goto C 5 dX6_lastAhead_44 (by decide) ?_
          refine v_sub (lv' := [(0, .ref (ad b)), (1, .int y3), (2, .int x21)]) [0, 1, 2] rfl ?_
          exact ih7 y3 x21  (by have := hx21; omega) (by have := hx21; omega)
        · refine v_iload_n C 3 dX6_lastAhead_39 rfl rfl ?_
          exact v_ret C dX6_lastAhead_40 rfl rfl ⟨(ti_any x17), rfl⟩
  exact LP2 100000 x (i1 10)  (by omega) (by omega)

set_option maxRecDepth 20000 in
theorem t_X6_turned (l : Launch) (G : Gl) (ad : Nat → Nat) {k : Nat} {E0 E : Nat → va_E} (hJ : J8 G ad k E0 E) (b : Nat) (hb : ZC k b) (x : Int32) (y : Int32) : CtI l G yX6_turned cX6_turned 7 .int 2 45 (98 + 9 * k) ad E [.ref (ad b), .int x, .int y] (fun r E' => ((-2147483648 : Int) ≤ r.toInt ∧ r.toInt ≤ 2147483647) ∧ E = E') := by
  refine CtI.of (by decide) (Nat.le_of_ble_eq_true rfl) (fun X A C => ?_)
  refine v_sub (lv' := [(0, .ref (ad b)), (1, .int x), (2, .int y)]) [0, 1, 2] rfl ?_
  have hk5 := hJ.1
  have hbn := hb.n
  refine v_iconst (v := (-1)) C dX6_turned_0 (by decide) ?_
  refine v_istore_n (lv' := [(0, .ref (ad b)), (1, .int x), (2, .int y), (3, .int (-1))]) C [1, 2, 3, 0] dX6_turned_1 rfl (by decide) rfl ?_
  refine v_aload_n C 0 dX6_turned_2 rfl rfl ?_
  refine v_iload_n C 1 dX6_turned_3 rfl rfl ?_
  refine v_sipush (v := 720) C dX6_turned_4 (by decide) ?_
  refine v_isub C dX6_turned_7 ?_
  refine v_top (fun x1 _ => ?_)
  obtain ⟨i4, hE4, hb4⟩ := hJ.2.2.getO (b := b) (by omega) hb.t0
  refine v_cVp C dX6_turned_8 lX6_64 mX6_stretchAt b (by omega) hE4 (by decide) rfl (t_X6_stretchAt l G ad hJ b hb x1) ⟨by decide, by decide⟩ rfl (Nat.le_of_ble_eq_true rfl) ⟨Nat.zero_le _, Nat.zero_le _⟩ (fun r2 hp3 => ?_)
  refine v_istore (lv' := [(0, .ref (ad b)), (1, .int x), (2, .int y), (3, .int (-1)), (4, .int r2)]) C [1, 2, 3, 4, 0] dX6_turned_11 (by decide) rfl ?_
  refine v_iload C 4 dX6_turned_13 rfl ?_
  refine v_istore (lv' := [(0, .ref (ad b)), (1, .int x), (2, .int y), (3, .int (-1)), (4, .int r2), (5, .int r2)]) C [1, 2, 3, 4, 5, 0] dX6_turned_15 (by decide) rfl ?_
  have LP5 : ∀ (t : Nat) (y6 : Int32) (y7 : Int32) (y8 : Int32) (y9 : Int32) (y10 : Int32), ((0 : Int) ≤ y9.toInt ∧ y9.toInt ≤ 800) → ((0 : Int) ≤ y10.toInt ∧ y10.toInt ≤ 801) → 801 - y10.toInt < (t : Int) → V X G A 7 (QI X G A (98 + 9 * k) ad (fun r E' => ((-2147483648 : Int) ≤ r.toInt ∧ r.toInt ≤ 2147483647) ∧ E = E')) (98 + 9 * k) ad 0 0 E 17 [(0, .ref (ad b)), (1, .int y6), (2, .int y7), (3, .int y8), (4, .int y9), (5, .int y10)] [] := by
    intro t15
    induction t15 with
    | zero => intro y6 y7 y8 y9 y10 hy9 hy10 hm14; exfalso; omega
    | succ t15 ih13 =>
      intro y6 y7 y8 y9 y10 hy9 hy10 hm14
      refine v_iload C 5 dX6_turned_17 rfl ?_
      refine v_aload_n C 0 dX6_turned_19 rfl rfl ?_
      refine v_geti (v := i4 10) C b dX6_turned_20 fX6_47 (by omega) hE4 rfl rfl ?_
      have hi4_10 : (0 : Int) ≤ (i4 10).toInt ∧ (i4 10).toInt ≤ 800 := hb4 10
      refine b_icmp_gt C 94 dX6_turned_23 (by decide) (rfl : Int32.toInt y10 = _) (rfl : Int32.toInt (i4 10) = _) (fun c16 => ?_) (fun c16 => ?_)
      · refine v_iload_n C 3 dX6_turned_94 rfl rfl ?_
        refine v_iconst (v := (-1)) C dX6_turned_95 (by decide) ?_
        refine b_icmp_eq C 101 dX6_turned_96 (by decide) (rfl : Int32.toInt y8 = _) (show ((-1) : Int32).toInt = (-1) by decide) (fun c17 => ?_) (fun c17 => ?_)
        · refine v_iload_n C 2 dX6_turned_101 rfl rfl ?_
          refine b_if_eq C 113 dX6_turned_102 (by decide) (rfl : Int32.toInt y7 = _) (fun c18 => ?_) (fun c18 => ?_)
          · refine v_aload_n C 0 dX6_turned_113 rfl rfl ?_
            refine v_iload_n C 1 dX6_turned_114 rfl rfl ?_
            refine v_iload C 4 dX6_turned_115 rfl ?_
            refine v_cVp C dX6_turned_117 lX6_70 mX6_firstBehind b (by omega) hE4 (by decide) rfl (t_X6_firstBehind l G ad hJ b hb y6 y9 (show (0 : Int) ≤ Int32.toInt y9 ∧ Int32.toInt y9 ≤ 800 by omega)) ⟨by decide, by decide⟩ rfl (Nat.le_of_ble_eq_true rfl) ⟨Nat.zero_le _, Nat.zero_le _⟩ (fun r19 hp20 => ?_)
            exact v_ret C dX6_turned_120 rfl rfl ⟨(ti_any r19), rfl⟩
          · refine v_aload_n C 0 dX6_turned_105 rfl rfl ?_
            refine v_iload_n C 1 dX6_turned_106 rfl rfl ?_
            refine v_cVp C dX6_turned_107 lX6_67 mX6_lastAhead b (by omega) hE4 (by decide) rfl (t_X6_lastAhead l G ad hJ b hb y6) ⟨by decide, by decide⟩ rfl (Nat.le_of_ble_eq_true rfl) ⟨Nat.zero_le _, Nat.zero_le _⟩ (fun r21 hp22 => ?_)
            refine v_goto C 120 dX6_turned_110 (by decide) ?_
            exact v_ret C dX6_turned_120 rfl rfl ⟨(ti_any r21), rfl⟩
        · refine v_iload_n C 3 dX6_turned_99 rfl rfl ?_
          exact v_ret C dX6_turned_100 rfl rfl ⟨(ti_any y8), rfl⟩
      · refine v_aload_n C 0 dX6_turned_26 rfl rfl ?_
        refine v_getr C b dX6_turned_27 fX6_27 (by omega) hE4 rfl rfl ?_
        refine v_iload C 5 dX6_turned_30 rfl ?_
        obtain ⟨f23, hE23, hb23⟩ := hJ.2.2.getA (b := (b + 6)) (by omega) hb.t6
        refine v_ald (v := f23 (y10.toInt).toNat) C (b + 6) dX6_turned_32 (by omega) hE23 (ti_in (rfl : Int32.toInt y10 = _) (by omega) (by omega)) (by rw [ti_cl (rfl : Int32.toInt y10 = _)]) ?_
        refine v_top (fun x24 _ => ?_)
        refine v_iload_n C 1 dX6_turned_33 rfl rfl ?_
        refine v_sipush (v := 720) C dX6_turned_34 (by decide) ?_
        refine v_iadd C dX6_turned_37 ?_
        refine v_top (fun x25 _ => ?_)
        refine b_icmp_gt C 94 dX6_turned_38 (by decide) (rfl : Int32.toInt x24 = _) (rfl : Int32.toInt x25 = _) (fun c26 => ?_) (fun c26 => ?_)
        · refine v_iload_n C 3 dX6_turned_94 rfl rfl ?_
          refine v_iconst (v := (-1)) C dX6_turned_95 (by decide) ?_
          refine b_icmp_eq C 101 dX6_turned_96 (by decide) (rfl : Int32.toInt y8 = _) (show ((-1) : Int32).toInt = (-1) by decide) (fun c27 => ?_) (fun c27 => ?_)
          · refine v_iload_n C 2 dX6_turned_101 rfl rfl ?_
            refine b_if_eq C 113 dX6_turned_102 (by decide) (rfl : Int32.toInt y7 = _) (fun c28 => ?_) (fun c28 => ?_)
            · refine v_aload_n C 0 dX6_turned_113 rfl rfl ?_
              refine v_iload_n C 1 dX6_turned_114 rfl rfl ?_
              refine v_iload C 4 dX6_turned_115 rfl ?_
              refine v_cVp C dX6_turned_117 lX6_70 mX6_firstBehind b (by omega) hE4 (by decide) rfl (t_X6_firstBehind l G ad hJ b hb y6 y9 (show (0 : Int) ≤ Int32.toInt y9 ∧ Int32.toInt y9 ≤ 800 by omega)) ⟨by decide, by decide⟩ rfl (Nat.le_of_ble_eq_true rfl) ⟨Nat.zero_le _, Nat.zero_le _⟩ (fun r29 hp30 => ?_)
              exact v_ret C dX6_turned_120 rfl rfl ⟨(ti_any r29), rfl⟩
            · refine v_aload_n C 0 dX6_turned_105 rfl rfl ?_
              refine v_iload_n C 1 dX6_turned_106 rfl rfl ?_
              refine v_cVp C dX6_turned_107 lX6_67 mX6_lastAhead b (by omega) hE4 (by decide) rfl (t_X6_lastAhead l G ad hJ b hb y6) ⟨by decide, by decide⟩ rfl (Nat.le_of_ble_eq_true rfl) ⟨Nat.zero_le _, Nat.zero_le _⟩ (fun r31 hp32 => ?_)
              refine v_goto C 120 dX6_turned_110 (by decide) ?_
              exact v_ret C dX6_turned_120 rfl rfl ⟨(ti_any r31), rfl⟩
          · refine v_iload_n C 3 dX6_turned_99 rfl rfl ?_
            exact v_ret C dX6_turned_100 rfl rfl ⟨(ti_any y8), rfl⟩
        · refine v_iload_n C 1 dX6_turned_41 rfl rfl ?_
          refine v_aload_n C 0 dX6_turned_42 rfl rfl ?_
          refine v_getr C b dX6_turned_43 fX6_33 (by omega) hE4 rfl rfl ?_
          refine v_iload C 5 dX6_turned_46 rfl ?_
          obtain ⟨f33, hE33, hb33⟩ := hJ.2.2.getA (b := (b + 8)) (by omega) hb.t8
          refine v_ald (v := f33 (y10.toInt).toNat) C (b + 8) dX6_turned_48 (by omega) hE33 (ti_in (rfl : Int32.toInt y10 = _) (by omega) (by omega)) (by rw [ti_cl (rfl : Int32.toInt y10 = _)]) ?_
          refine v_top (fun x34 _ => ?_)
          refine v_isub C dX6_turned_49 ?_
          refine v_top (fun x35 _ => ?_)
          refine v_istore (lv' := [(0, .ref (ad b)), (1, .int y6), (2, .int y7), (3, .int y8), (4, .int y9), (5, .int y10), (6, .int x35)]) C [1, 2, 3, 4, 5, 6, 0] dX6_turned_50 (by decide) rfl ?_
          refine v_iload C 6 dX6_turned_52 rfl ?_
          refine v_aload_n C 0 dX6_turned_54 rfl rfl ?_
          refine v_getr C b dX6_turned_55 fX6_27 (by omega) hE4 rfl rfl ?_
          refine v_iload C 5 dX6_turned_58 rfl ?_
          refine v_ald (v := f23 (y10.toInt).toNat) C (b + 6) dX6_turned_60 (by omega) hE23 (ti_in (rfl : Int32.toInt y10 = _) (by omega) (by omega)) (by rw [ti_cl (rfl : Int32.toInt y10 = _)]) ?_
          refine v_top (fun x36 _ => ?_)
          refine b_icmp_lt C 88 dX6_turned_61 (by decide) (rfl : Int32.toInt x35 = _) (rfl : Int32.toInt x36 = _) (fun c37 => ?_) (fun c37 => ?_)
          · obtain ⟨x38, ex38⟩ : ∃ y : Int32, y = y10 + 1 := ⟨_, rfl⟩
            have hx38 : x38.toInt = (y10.toInt + 1) := by rw [ex38]; exact ti_add (rfl : Int32.toInt y10 = _) (show (1 : Int32).toInt = 1 by decide) (by omega) (by omega)
            refine v_iinc (v := x38) (lv' := [(0, .ref (ad b)), (1, .int y6), (2, .int y7), (3, .int y8), (4, .int y9), (5, .int x38), (6, .int x35)]) C 5 [1, 2, 3, 4, 5, 0, 6] dX6_turned_88 rfl (ex38.symm) (by decide) rfl ?_
            refine v_goto C 17 dX6_turned_91 (by decide) ?_
            refine v_sub (lv' := [(0, .ref (ad b)), (1, .int y6), (2, .int y7), (3, .int y8), (4, .int y9), (5, .int x38)]) [0, 1, 2, 3, 4, 5] rfl ?_
            exact ih13 y6 y7 y8 y9 x38  (by have := hx38; omega) (by have := hx38; omega) (by have := hx38; omega)
          · refine v_iload C 6 dX6_turned_64 rfl ?_
            refine v_aload_n C 0 dX6_turned_66 rfl rfl ?_
            refine v_getr C b dX6_turned_67 fX6_30 (by omega) hE4 rfl rfl ?_
            refine v_iload C 5 dX6_turned_70 rfl ?_
            obtain ⟨f39, hE39, hb39⟩ := hJ.2.2.getA (b := (b + 7)) (by omega) hb.t7
            refine v_ald (v := f39 (y10.toInt).toNat) C (b + 7) dX6_turned_72 (by omega) hE39 (ti_in (rfl : Int32.toInt y10 = _) (by omega) (by omega)) (by rw [ti_cl (rfl : Int32.toInt y10 = _)]) ?_
            refine v_top (fun x40 _ => ?_)
            refine b_icmp_ge C 88 dX6_turned_73 (by decide) (rfl : Int32.toInt x35 = _) (rfl : Int32.toInt x40 = _) (fun c41 => ?_) (fun c41 => ?_)
            · obtain ⟨x42, ex42⟩ : ∃ y : Int32, y = y10 + 1 := ⟨_, rfl⟩
              have hx42 : x42.toInt = (y10.toInt + 1) := by rw [ex42]; exact ti_add (rfl : Int32.toInt y10 = _) (show (1 : Int32).toInt = 1 by decide) (by omega) (by omega)
              refine v_iinc (v := x42) (lv' := [(0, .ref (ad b)), (1, .int y6), (2, .int y7), (3, .int y8), (4, .int y9), (5, .int x42), (6, .int x35)]) C 5 [1, 2, 3, 4, 5, 0, 6] dX6_turned_88 rfl (ex42.symm) (by decide) rfl ?_
              refine v_goto C 17 dX6_turned_91 (by decide) ?_
              refine v_sub (lv' := [(0, .ref (ad b)), (1, .int y6), (2, .int y7), (3, .int y8), (4, .int y9), (5, .int x42)]) [0, 1, 2, 3, 4, 5] rfl ?_
              exact ih13 y6 y7 y8 y9 x42  (by have := hx42; omega) (by have := hx42; omega) (by have := hx42; omega)
            · refine v_iload_n C 2 dX6_turned_76 rfl rfl ?_
              refine b_if_ne C 85 dX6_turned_77 (by decide) (rfl : Int32.toInt y7 = _) (fun c43 => ?_) (fun c43 => ?_)
              · refine v_iload C 6 dX6_turned_85 rfl ?_
                refine v_istore_n (lv' := [(0, .ref (ad b)), (1, .int y6), (2, .int y7), (3, .int x35), (4, .int y9), (5, .int y10), (6, .int x35)]) C [1, 2, 3, 0, 4, 5, 6] dX6_turned_87 rfl (by decide) rfl ?_
                obtain ⟨x44, ex44⟩ : ∃ y : Int32, y = y10 + 1 := ⟨_, rfl⟩
                have hx44 : x44.toInt = (y10.toInt + 1) := by rw [ex44]; exact ti_add (rfl : Int32.toInt y10 = _) (show (1 : Int32).toInt = 1 by decide) (by omega) (by omega)
                refine v_iinc (v := x44) (lv' := [(0, .ref (ad b)), (1, .int y6), (2, .int y7), (3, .int x35), (4, .int y9), (5, .int x44), (6, .int x35)]) C 5 [1, 2, 3, 4, 5, 0, 6] dX6_turned_88 rfl (ex44.symm) (by decide) rfl ?_
                refine v_goto C 17 dX6_turned_91 (by decide) ?_
                refine v_sub (lv' := [(0, .ref (ad b)), (1, .int y6), (2, .int y7), (3, .int x35), (4, .int y9), (5, .int x44)]) [0, 1, 2, 3, 4, 5] rfl ?_
                exact ih13 y6 y7 x35 y9 x44  (by have := hx44; omega) (by have := hx44; omega) (by have := hx44; omega)
              · refine v_iload_n C 3 dX6_turned_80 rfl rfl ?_
                refine v_iconst (v := (-1)) C dX6_turned_81 (by decide) ?_
                refine b_icmp_ne C 88 dX6_turned_82 (by decide) (rfl : Int32.toInt y8 = _) (show ((-1) : Int32).toInt = (-1) by decide) (fun c45 => ?_) (fun c45 => ?_)
                · obtain ⟨x46, ex46⟩ : ∃ y : Int32, y = y10 + 1 := ⟨_, rfl⟩
                  have hx46 : x46.toInt = (y10.toInt + 1) := by rw [ex46]; exact ti_add (rfl : Int32.toInt y10 = _) (show (1 : Int32).toInt = 1 by decide) (by omega) (by omega)
                  refine v_iinc (v := x46) (lv' := [(0, .ref (ad b)), (1, .int y6), (2, .int y7), (3, .int y8), (4, .int y9), (5, .int x46), (6, .int x35)]) C 5 [1, 2, 3, 4, 5, 0, 6] dX6_turned_88 rfl (ex46.symm) (by decide) rfl ?_
                  refine v_goto C 17 dX6_turned_91 (by decide) ?_
                  refine v_sub (lv' := [(0, .ref (ad b)), (1, .int y6), (2, .int y7), (3, .int y8), (4, .int y9), (5, .int x46)]) [0, 1, 2, 3, 4, 5] rfl ?_
                  exact ih13 y6 y7 y8 y9 x46  (by have := hx46; omega) (by have := hx46; omega) (by have := hx46; omega)
                · refine v_iload C 6 dX6_turned_85 rfl ?_
                  refine v_istore_n (lv' := [(0, .ref (ad b)), (1, .int y6), (2, .int y7), (3, .int x35), (4, .int y9), (5, .int y10), (6, .int x35)]) C [1, 2, 3, 0, 4, 5, 6] dX6_turned_87 rfl (by decide) rfl ?_
                  obtain ⟨x47, ex47⟩ : ∃ y : Int32, y = y10 + 1 := ⟨_, rfl⟩
                  have hx47 : x47.toInt = (y10.toInt + 1) := by rw [ex47]; exact ti_add (rfl : Int32.toInt y10 = _) (show (1 : Int32).toInt = 1 by decide) (by omega) (by omega)
                  refine v_iinc (v := x47) (lv' := [(0, .ref (ad b)), (1, .int y6), (2, .int y7), (3, .int x35), (4, .int y9), (5, .int x47), (6, .int x35)]) C 5 [1, 2, 3, 4, 5, 0, 6] dX6_turned_88 rfl (ex47.symm) (by decide) rfl ?_
                  refine v_goto C 17 dX6_turned_91 (by decide) ?_
                  refine v_sub (lv' := [(0, .ref (ad b)), (1, .int y6), (2, .int y7), (3, .int x35), (4, .int y9), (5, .int x47)]) [0, 1, 2, 3, 4, 5] rfl ?_
                  exact ih13 y6 y7 x35 y9 x47  (by have := hx47; omega) (by have := hx47; omega) (by have := hx47; omega)
  exact LP5 100000 x y (-1) r2 r2  (by have := (show ((-1) : Int32).toInt = (-1) by decide); omega) (by have := (show ((-1) : Int32).toInt = (-1) by decide); omega) (by have := (show ((-1) : Int32).toInt = (-1) by decide); omega)

set_option maxRecDepth 20000 in
theorem t_X6_firstOfDay (l : Launch) (G : Gl) (ad : Nat → Nat) {k : Nat} {E0 E : Nat → va_E} (hJ : J8 G ad k E0 E) (b : Nat) (hb : ZC k b) (x : Int32) (y : Int32) (hy : (0 : Int) ≤ y.toInt ∧ y.toInt ≤ 800) : CtI l G yX6_firstOfDay cX6_firstOfDay 7 .int 1 21 (98 + 9 * k) ad E [.ref (ad b), .int x, .int y] (fun r E' => ((-2147483648 : Int) ≤ r.toInt ∧ r.toInt ≤ 2147483647) ∧ E = E') := by
  refine CtI.of (by decide) (Nat.le_of_ble_eq_true rfl) (fun X A C => ?_)
  refine v_sub (lv' := [(0, .ref (ad b)), (1, .int x), (2, .int y)]) [0, 1, 2] rfl ?_
  have hk5 := hJ.1
  have hbn := hb.n
  refine v_iload_n C 1 dX6_firstOfDay_0 rfl rfl ?_
  refine v_sipush (v := 1440) C dX6_firstOfDay_1 (by decide) ?_
  refine v_imul C dX6_firstOfDay_4 ?_
  refine v_top (fun x1 _ => ?_)
  refine v_istore_n (lv' := [(0, .ref (ad b)), (1, .int x), (2, .int y), (3, .int x1)]) C [1, 2, 3, 0] dX6_firstOfDay_5 rfl (by decide) rfl ?_
  refine v_iload_n C 3 dX6_firstOfDay_6 rfl rfl ?_
  refine v_sipush (v := 1440) C dX6_firstOfDay_7 (by decide) ?_
  refine v_iadd C dX6_firstOfDay_10 ?_
  refine v_top (fun x2 _ => ?_)
  refine v_istore (lv' := [(0, .ref (ad b)), (1, .int x), (2, .int y), (3, .int x1), (4, .int x2)]) C [1, 2, 3, 4, 0] dX6_firstOfDay_11 (by decide) rfl ?_
  refine v_iload_n C 2 dX6_firstOfDay_13 rfl rfl ?_
  refine v_istore (lv' := [(0, .ref (ad b)), (1, .int x), (2, .int y), (3, .int x1), (4, .int x2), (5, .int y)]) C [1, 2, 3, 4, 5, 0] dX6_firstOfDay_14 (by decide) rfl ?_
  have LP3 : ∀ (t : Nat) (y4 : Int32) (y5 : Int32) (y6 : Int32) (y7 : Int32) (y8 : Int32), ((0 : Int) ≤ y5.toInt ∧ y5.toInt ≤ 800) → ((0 : Int) ≤ y8.toInt ∧ y8.toInt ≤ 801) → 801 - y8.toInt < (t : Int) → V X G A 7 (QI X G A (98 + 9 * k) ad (fun r E' => ((-2147483648 : Int) ≤ r.toInt ∧ r.toInt ≤ 2147483647) ∧ E = E')) (98 + 9 * k) ad 0 0 E 16 [(0, .ref (ad b)), (1, .int y4), (2, .int y5), (3, .int y6), (4, .int y7), (5, .int y8)] [] := by
    intro t13
    induction t13 with
    | zero => intro y4 y5 y6 y7 y8 hy5 hy8 hm12; exfalso; omega
    | succ t13 ih11 =>
      intro y4 y5 y6 y7 y8 hy5 hy8 hm12
      refine v_iload C 5 dX6_firstOfDay_16 rfl ?_
      refine v_aload_n C 0 dX6_firstOfDay_18 rfl rfl ?_
      obtain ⟨i14, hE14, hb14⟩ := hJ.2.2.getO (b := b) (by omega) hb.t0
      refine v_geti (v := i14 10) C b dX6_firstOfDay_19 fX6_47 (by omega) hE14 rfl rfl ?_
      have hi14_10 : (0 : Int) ≤ (i14 10).toInt ∧ (i14 10).toInt ≤ 800 := hb14 10
      refine b_icmp_gt C 98 dX6_firstOfDay_22 (by decide) (rfl : Int32.toInt y8 = _) (rfl : Int32.toInt (i14 10) = _) (fun c15 => ?_) (fun c15 => ?_)
      · refine v_iconst (v := (-1)) C dX6_firstOfDay_98 (by decide) ?_
        exact v_ret C dX6_firstOfDay_99 rfl rfl ⟨(ti_any (-1)), rfl⟩
      · refine v_aload_n C 0 dX6_firstOfDay_25 rfl rfl ?_
        refine v_getr C b dX6_firstOfDay_26 fX6_27 (by omega) hE14 rfl rfl ?_
        refine v_iload C 5 dX6_firstOfDay_29 rfl ?_
        obtain ⟨f16, hE16, hb16⟩ := hJ.2.2.getA (b := (b + 6)) (by omega) hb.t6
        refine v_ald (v := f16 (y8.toInt).toNat) C (b + 6) dX6_firstOfDay_31 (by omega) hE16 (ti_in (rfl : Int32.toInt y8 = _) (by omega) (by omega)) (by rw [ti_cl (rfl : Int32.toInt y8 = _)]) ?_
        refine v_top (fun x17 _ => ?_)
        refine v_iload C 4 dX6_firstOfDay_32 rfl ?_
        refine v_sipush (v := 720) C dX6_firstOfDay_34 (by decide) ?_
        refine v_iadd C dX6_firstOfDay_37 ?_
        refine v_top (fun x18 _ => ?_)
        refine b_icmp_ge C 98 dX6_firstOfDay_38 (by decide) (rfl : Int32.toInt x17 = _) (rfl : Int32.toInt x18 = _) (fun c19 => ?_) (fun c19 => ?_)
        · refine v_iconst (v := (-1)) C dX6_firstOfDay_98 (by decide) ?_
          exact v_ret C dX6_firstOfDay_99 rfl rfl ⟨(ti_any (-1)), rfl⟩
        · refine v_aload_n C 0 dX6_firstOfDay_41 rfl rfl ?_
          refine v_getr C b dX6_firstOfDay_42 fX6_27 (by omega) hE14 rfl rfl ?_
          refine v_iload C 5 dX6_firstOfDay_45 rfl ?_
          refine v_ald (v := f16 (y8.toInt).toNat) C (b + 6) dX6_firstOfDay_47 (by omega) hE16 (ti_in (rfl : Int32.toInt y8 = _) (by omega) (by omega)) (by rw [ti_cl (rfl : Int32.toInt y8 = _)]) ?_
          refine v_top (fun x20 _ => ?_)
          refine v_iload_n C 3 dX6_firstOfDay_48 rfl rfl ?_
          refine v_aload_n C 0 dX6_firstOfDay_49 rfl rfl ?_
          refine v_getr C b dX6_firstOfDay_50 fX6_33 (by omega) hE14 rfl rfl ?_
          refine v_iload C 5 dX6_firstOfDay_53 rfl ?_
          obtain ⟨f21, hE21, hb21⟩ := hJ.2.2.getA (b := (b + 8)) (by omega) hb.t8
          refine v_ald (v := f21 (y8.toInt).toNat) C (b + 8) dX6_firstOfDay_55 (by omega) hE21 (ti_in (rfl : Int32.toInt y8 = _) (by omega) (by omega)) (by rw [ti_cl (rfl : Int32.toInt y8 = _)]) ?_
          refine v_top (fun x22 _ => ?_)
          refine v_isub C dX6_firstOfDay_56 ?_
          refine v_top (fun x23 _ => ?_)
          refine v_mmax C dX6_firstOfDay_57 lX6_73 mJ9_max_7cf53.2.2.1 mJ9_max_7cf53.2.1 mJ9_max_7cf53.1 ⟨by decide, Nat.le_of_ble_eq_true rfl⟩ ⟨Nat.zero_le _, Nat.zero_le _⟩ ?_
          refine v_top (fun x24 ex24 => ?_)
          have hx24 : x20.toInt ≤ x24.toInt ∧ x23.toInt ≤ x24.toInt ∧ (x24.toInt = x20.toInt ∨ x24.toInt = x23.toInt) := by rw [ex24]; exact mmax_b (rfl : Int32.toInt x20 = _) (rfl : Int32.toInt x23 = _)
          refine v_istore (lv' := [(0, .ref (ad b)), (1, .int y4), (2, .int y5), (3, .int y6), (4, .int y7), (5, .int y8), (6, .int x24)]) C [1, 2, 3, 4, 5, 6, 0] dX6_firstOfDay_60 (by decide) rfl ?_
          refine v_iload C 6 dX6_firstOfDay_62 rfl ?_
          refine v_aload_n C 0 dX6_firstOfDay_64 rfl rfl ?_
          refine v_getr C b dX6_firstOfDay_65 fX6_30 (by omega) hE14 rfl rfl ?_
          refine v_iload C 5 dX6_firstOfDay_68 rfl ?_
          obtain ⟨f25, hE25, hb25⟩ := hJ.2.2.getA (b := (b + 7)) (by omega) hb.t7
          refine v_ald (v := f25 (y8.toInt).toNat) C (b + 7) dX6_firstOfDay_70 (by omega) hE25 (ti_in (rfl : Int32.toInt y8 = _) (by omega) (by omega)) (by rw [ti_cl (rfl : Int32.toInt y8 = _)]) ?_
          refine v_top (fun x26 _ => ?_)
          refine b_icmp_ge C 92 dX6_firstOfDay_71 (by decide) (rfl : Int32.toInt x24 = _) (rfl : Int32.toInt x26 = _) (fun c27 => ?_) (fun c27 => ?_)
          · obtain ⟨x28, ex28⟩ : ∃ y : Int32, y = y8 + 1 := ⟨_, rfl⟩
            have hx28 : x28.toInt = (y8.toInt + 1) := by rw [ex28]; exact ti_add (rfl : Int32.toInt y8 = _) (show (1 : Int32).toInt = 1 by decide) (by omega) (by omega)
            refine v_iinc (v := x28) (lv' := [(0, .ref (ad b)), (1, .int y4), (2, .int y5), (3, .int y6), (4, .int y7), (5, .int x28), (6, .int x24)]) C 5 [1, 2, 3, 4, 5, 0, 6] dX6_firstOfDay_92 rfl (ex28.symm) (by decide) rfl ?_
            refine v_goto C 16 dX6_firstOfDay_95 (by decide) ?_
            refine v_sub (lv' := [(0, .ref (ad b)), (1, .int y4), (2, .int y5), (3, .int y6), (4, .int y7), (5, .int x28)]) [0, 1, 2, 3, 4, 5] rfl ?_
            exact ih11 y4 y5 y6 y7 x28  (by have := hx28; omega) (by have := hx28; omega) (by have := hx28; omega)
          · refine v_iload C 6 dX6_firstOfDay_74 rfl ?_
            refine v_aload_n C 0 dX6_firstOfDay_76 rfl rfl ?_
            refine v_getr C b dX6_firstOfDay_77 fX6_33 (by omega) hE14 rfl rfl ?_
            refine v_iload C 5 dX6_firstOfDay_80 rfl ?_
            refine v_ald (v := f21 (y8.toInt).toNat) C (b + 8) dX6_firstOfDay_82 (by omega) hE21 (ti_in (rfl : Int32.toInt y8 = _) (by omega) (by omega)) (by rw [ti_cl (rfl : Int32.toInt y8 = _)]) ?_
            refine v_top (fun x29 _ => ?_)
            refine v_iadd C dX6_firstOfDay_83 ?_
            refine v_top (fun x30 _ => ?_)
            refine v_iload C 4 dX6_firstOfDay_84 rfl ?_
            refine b_icmp_ge C 92 dX6_firstOfDay_86 (by decide) (rfl : Int32.toInt x30 = _) (rfl : Int32.toInt y7 = _) (fun c31 => ?_) (fun c31 => ?_)
            · obtain ⟨x32, ex32⟩ : ∃ y : Int32, y = y8 + 1 := ⟨_, rfl⟩
              have hx32 : x32.toInt = (y8.toInt + 1) := by rw [ex32]; exact ti_add (rfl : Int32.toInt y8 = _) (show (1 : Int32).toInt = 1 by decide) (by omega) (by omega)
              refine v_iinc (v := x32) (lv' := [(0, .ref (ad b)), (1, .int y4), (2, .int y5), (3, .int y6), (4, .int y7), (5, .int x32), (6, .int x24)]) C 5 [1, 2, 3, 4, 5, 0, 6] dX6_firstOfDay_92 rfl (ex32.symm) (by decide) rfl ?_
              refine v_goto C 16 dX6_firstOfDay_95 (by decide) ?_
              refine v_sub (lv' := [(0, .ref (ad b)), (1, .int y4), (2, .int y5), (3, .int y6), (4, .int y7), (5, .int x32)]) [0, 1, 2, 3, 4, 5] rfl ?_
              exact ih11 y4 y5 y6 y7 x32  (by have := hx32; omega) (by have := hx32; omega) (by have := hx32; omega)
            · refine v_iload C 6 dX6_firstOfDay_89 rfl ?_
              exact v_ret C dX6_firstOfDay_91 rfl rfl ⟨(ti_any x24), rfl⟩
  exact LP3 100000 x y x1 x2 y  (by omega) (by omega) (by omega)

