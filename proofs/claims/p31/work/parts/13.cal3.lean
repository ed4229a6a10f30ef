set_option maxRecDepth 20000 in
theorem lp_yearOf {X : Mx} {l : Launch} {G : Gl} {A : Nat → Prop} {ret : Option FieldType} {R : Room} {Q : State → Prop} {n : Nat} {ad : Nat → Nat} (C : Cx X l G A "OddHours$Calendar" cX0_yearOf 4 ret R) (E : Nat → va_E) (hn : 6 ≤ n) {ic md ms ld ys : Nat → Int32} (hE1 : E 1 = ob 0 (rfs ad [2, 3, 4, 5]) ic) (hE2 : E 2 = aI G 12 md) (hE3 : E 3 = aI G 12 ms) (hE4 : E 4 = aI G 100 ld) (hE5 : E 5 = aI G 101 ys) (hP : CalP ic md) (hF : CalF ic md ms ld ys) (d : Int32) (hd2 : d.toInt < YSf md (ic 4).toInt (ic 5).toInt 100)
    (kont : ∀ (yr : Nat) (y2 : Int32), y2.toInt = (yr : Int) → yr < 100 → YSf md (ic 4).toInt (ic 5).toInt yr ≤ d.toInt → d.toInt < YSf md (ic 4).toInt (ic 5).toInt (yr + 1) → V X G A 4 Q n ad 0 0 E 40 [(0, .ref (ad 1)), (1, .int d), (2, .int y2), (3, .int 0)] []) :
    ∀ (yr : Nat) (y2 : Int32), y2.toInt = (yr : Int) → yr < 100 → YSf md (ic 4).toInt (ic 5).toInt yr ≤ d.toInt → yr = 0 → V X G A 4 Q n ad 0 0 E 5 [(0, .ref (ad 1)), (1, .int d), (2, .int y2), (3, .int 64)] [] := by
  have L0 : ∀ (yr : Nat) (y2 : Int32), y2.toInt = (yr : Int) → yr < 100 → YSf md (ic 4).toInt (ic 5).toInt yr ≤ d.toInt → d.toInt < YSf md (ic 4).toInt (ic 5).toInt (min 100 (yr + 1)) → V X G A 4 Q n ad 0 0 E 5 [(0, .ref (ad 1)), (1, .int d), (2, .int y2), (3, .int 0)] [] := by
    intro yr y2 hy2 hyr hlo hhi
    refine v_iload_n C 3 dX0_yearOf_5 rfl rfl ?_
    refine b_if_le C 40 dX0_yearOf_6 (by decide) (show (0 : Int32).toInt = 0 by decide) (fun c1 => ?_) (fun c1 => absurd c1 (by decide))
    exact kont yr y2 hy2 hyr hlo (by rw [show min 100 (yr + 1) = yr + 1 by omega] at hhi; exact hhi)
  have L1 : ∀ (yr : Nat) (y2 : Int32), y2.toInt = (yr : Int) → yr < 100 → YSf md (ic 4).toInt (ic 5).toInt yr ≤ d.toInt → d.toInt < YSf md (ic 4).toInt (ic 5).toInt (min 100 (yr + 2)) → V X G A 4 Q n ad 0 0 E 5 [(0, .ref (ad 1)), (1, .int d), (2, .int y2), (3, .int 1)] [] := by
    intro yr y2 hy2 hyr hlo hhi
    refine v_iload_n C 3 dX0_yearOf_5 rfl rfl ?_
    refine b_if_le C 40 dX0_yearOf_6 (by decide) (show (1 : Int32).toInt = 1 by decide) (fun c1 => absurd c1 (by decide)) (fun c1 => ?_)
    refine v_iload_n C 2 dX0_yearOf_9 rfl rfl ?_
    refine v_iload_n C 3 dX0_yearOf_10 rfl rfl ?_
    refine v_iadd C dX0_yearOf_11 ?_
    refine v_top (fun x2 ex2 => ?_)
    have hx2 : x2.toInt = ((yr : Int) + 1) := by rw [ex2]; exact ti_add hy2 (show (1 : Int32).toInt = 1 by decide) (by omega) (by omega)
    refine v_bipush (v := 100) C dX0_yearOf_12 (by decide) ?_
    refine b_icmp_ge C 33 dX0_yearOf_14 (by decide) hx2 (show (100 : Int32).toInt = 100 by decide) (fun c3 => ?_) (fun c3 => ?_)
    · refine v_iload_n C 3 dX0_yearOf_33 rfl rfl ?_
      refine v_iconst (v := 1) C dX0_yearOf_34 (by decide) ?_
      refine v_ishr C dX0_yearOf_35 ?_
      refine v_eq (y := 0) (by decide) ?_
      refine v_istore_n (lv' := [(0, .ref (ad 1)), (1, .int d), (2, .int y2), (3, .int 0)]) C [1, 2, 3, 0] dX0_yearOf_36 rfl (by decide) rfl ?_
      refine v_goto C 5 dX0_yearOf_37 (by decide) ?_
      exact L0 yr y2 hy2 hyr hlo (by rw [show min 100 (yr + 1) = 100 by omega]; exact hd2)
    · refine v_aload_n C 0 dX0_yearOf_17 rfl rfl ?_
      refine v_getr C 1 dX0_yearOf_18 fX0_21 (by omega) hE1 rfl rfl ?_
      refine v_iload_n C 2 dX0_yearOf_21 rfl rfl ?_
      refine v_iload_n C 3 dX0_yearOf_22 rfl rfl ?_
      refine v_iadd C dX0_yearOf_23 ?_
      refine v_top (fun x4 ex4 => ?_)
      have hx4 : x4.toInt = ((yr : Int) + 1) := by rw [ex4]; exact ti_add hy2 (show (1 : Int32).toInt = 1 by decide) (by omega) (by omega)
      refine v_ald (v := ys (yr + 1)) C 5 dX0_yearOf_24 (by omega) hE5 (ti_in hx4 (by omega) (by omega)) (by rw [ti_cl hx4, show Int.toNat ((yr : Int) + 1) = yr + 1 by omega]) ?_
      have qy := hF.2.2 (yr + 1) (by omega)
      refine v_iload_n C 1 dX0_yearOf_25 rfl rfl ?_
      refine b_icmp_gt C 33 dX0_yearOf_26 (by decide) (rfl : Int32.toInt (ys (yr + 1)) = _) (rfl : Int32.toInt d = _) (fun c5 => ?_) (fun c5 => ?_)
      · refine v_iload_n C 3 dX0_yearOf_33 rfl rfl ?_
        refine v_iconst (v := 1) C dX0_yearOf_34 (by decide) ?_
        refine v_ishr C dX0_yearOf_35 ?_
        refine v_eq (y := 0) (by decide) ?_
        refine v_istore_n (lv' := [(0, .ref (ad 1)), (1, .int d), (2, .int y2), (3, .int 0)]) C [1, 2, 3, 0] dX0_yearOf_36 rfl (by decide) rfl ?_
        refine v_goto C 5 dX0_yearOf_37 (by decide) ?_
        exact L0 yr y2 hy2 hyr hlo (by rw [show min 100 (yr + 1) = yr + 1 by omega]; omega)
      · refine v_iload_n C 2 dX0_yearOf_29 rfl rfl ?_
        refine v_iload_n C 3 dX0_yearOf_30 rfl rfl ?_
        refine v_iadd C dX0_yearOf_31 ?_
        refine v_top (fun x6 ex6 => ?_)
        have hx6 : x6.toInt = ((yr : Int) + 1) := by rw [ex6]; exact ti_add hy2 (show (1 : Int32).toInt = 1 by decide) (by omega) (by omega)
        refine v_istore_n (lv' := [(0, .ref (ad 1)), (1, .int d), (2, .int x6), (3, .int 1)]) C [1, 2, 0, 3] dX0_yearOf_32 rfl (by decide) rfl ?_
        refine v_iload_n C 3 dX0_yearOf_33 rfl rfl ?_
        refine v_iconst (v := 1) C dX0_yearOf_34 (by decide) ?_
        refine v_ishr C dX0_yearOf_35 ?_
        refine v_eq (y := 0) (by decide) ?_
        refine v_istore_n (lv' := [(0, .ref (ad 1)), (1, .int d), (2, .int x6), (3, .int 0)]) C [1, 2, 3, 0] dX0_yearOf_36 rfl (by decide) rfl ?_
        refine v_goto C 5 dX0_yearOf_37 (by decide) ?_
        exact L0 (yr + 1) x6 (by rw [hx6]; omega) (by omega) (by omega) (by rw [show min 100 (yr + 1 + 1) = min 100 (yr + 2) by omega]; exact hhi)
  have L2 : ∀ (yr : Nat) (y2 : Int32), y2.toInt = (yr : Int) → yr < 100 → YSf md (ic 4).toInt (ic 5).toInt yr ≤ d.toInt → d.toInt < YSf md (ic 4).toInt (ic 5).toInt (min 100 (yr + 4)) → V X G A 4 Q n ad 0 0 E 5 [(0, .ref (ad 1)), (1, .int d), (2, .int y2), (3, .int 2)] [] := by
    intro yr y2 hy2 hyr hlo hhi
    refine v_iload_n C 3 dX0_yearOf_5 rfl rfl ?_
    refine b_if_le C 40 dX0_yearOf_6 (by decide) (show (2 : Int32).toInt = 2 by decide) (fun c1 => absurd c1 (by decide)) (fun c1 => ?_)
    refine v_iload_n C 2 dX0_yearOf_9 rfl rfl ?_
    refine v_iload_n C 3 dX0_yearOf_10 rfl rfl ?_
    refine v_iadd C dX0_yearOf_11 ?_
    refine v_top (fun x2 ex2 => ?_)
    have hx2 : x2.toInt = ((yr : Int) + 2) := by rw [ex2]; exact ti_add hy2 (show (2 : Int32).toInt = 2 by decide) (by omega) (by omega)
    refine v_bipush (v := 100) C dX0_yearOf_12 (by decide) ?_
    refine b_icmp_ge C 33 dX0_yearOf_14 (by decide) hx2 (show (100 : Int32).toInt = 100 by decide) (fun c3 => ?_) (fun c3 => ?_)
    · refine v_iload_n C 3 dX0_yearOf_33 rfl rfl ?_
      refine v_iconst (v := 1) C dX0_yearOf_34 (by decide) ?_
      refine v_ishr C dX0_yearOf_35 ?_
      refine v_eq (y := 1) (by decide) ?_
      refine v_istore_n (lv' := [(0, .ref (ad 1)), (1, .int d), (2, .int y2), (3, .int 1)]) C [1, 2, 3, 0] dX0_yearOf_36 rfl (by decide) rfl ?_
      refine v_goto C 5 dX0_yearOf_37 (by decide) ?_
      exact L1 yr y2 hy2 hyr hlo (by rw [show min 100 (yr + 2) = 100 by omega]; exact hd2)
    · refine v_aload_n C 0 dX0_yearOf_17 rfl rfl ?_
      refine v_getr C 1 dX0_yearOf_18 fX0_21 (by omega) hE1 rfl rfl ?_
      refine v_iload_n C 2 dX0_yearOf_21 rfl rfl ?_
      refine v_iload_n C 3 dX0_yearOf_22 rfl rfl ?_
      refine v_iadd C dX0_yearOf_23 ?_
      refine v_top (fun x4 ex4 => ?_)
      have hx4 : x4.toInt = ((yr : Int) + 2) := by rw [ex4]; exact ti_add hy2 (show (2 : Int32).toInt = 2 by decide) (by omega) (by omega)
      refine v_ald (v := ys (yr + 2)) C 5 dX0_yearOf_24 (by omega) hE5 (ti_in hx4 (by omega) (by omega)) (by rw [ti_cl hx4, show Int.toNat ((yr : Int) + 2) = yr + 2 by omega]) ?_
      have qy := hF.2.2 (yr + 2) (by omega)
      refine v_iload_n C 1 dX0_yearOf_25 rfl rfl ?_
      refine b_icmp_gt C 33 dX0_yearOf_26 (by decide) (rfl : Int32.toInt (ys (yr + 2)) = _) (rfl : Int32.toInt d = _) (fun c5 => ?_) (fun c5 => ?_)
      · refine v_iload_n C 3 dX0_yearOf_33 rfl rfl ?_
        refine v_iconst (v := 1) C dX0_yearOf_34 (by decide) ?_
        refine v_ishr C dX0_yearOf_35 ?_
        refine v_eq (y := 1) (by decide) ?_
        refine v_istore_n (lv' := [(0, .ref (ad 1)), (1, .int d), (2, .int y2), (3, .int 1)]) C [1, 2, 3, 0] dX0_yearOf_36 rfl (by decide) rfl ?_
        refine v_goto C 5 dX0_yearOf_37 (by decide) ?_
        exact L1 yr y2 hy2 hyr hlo (by rw [show min 100 (yr + 2) = yr + 2 by omega]; omega)
      · refine v_iload_n C 2 dX0_yearOf_29 rfl rfl ?_
        refine v_iload_n C 3 dX0_yearOf_30 rfl rfl ?_
        refine v_iadd C dX0_yearOf_31 ?_
        refine v_top (fun x6 ex6 => ?_)
        have hx6 : x6.toInt = ((yr : Int) + 2) := by rw [ex6]; exact ti_add hy2 (show (2 : Int32).toInt = 2 by decide) (by omega) (by omega)
        refine v_istore_n (lv' := [(0, .ref (ad 1)), (1, .int d), (2, .int x6), (3, .int 2)]) C [1, 2, 0, 3] dX0_yearOf_32 rfl (by decide) rfl ?_
        refine v_iload_n C 3 dX0_yearOf_33 rfl rfl ?_
        refine v_iconst (v := 1) C dX0_yearOf_34 (by decide) ?_
        refine v_ishr C dX0_yearOf_35 ?_
        refine v_eq (y := 1) (by decide) ?_
        refine v_istore_n (lv' := [(0, .ref (ad 1)), (1, .int d), (2, .int x6), (3, .int 1)]) C [1, 2, 3, 0] dX0_yearOf_36 rfl (by decide) rfl ?_
        refine v_goto C 5 dX0_yearOf_37 (by decide) ?_
        exact L1 (yr + 2) x6 (by rw [hx6]; omega) (by omega) (by omega) (by rw [show min 100 (yr + 2 + 2) = min 100 (yr + 4) by omega]; exact hhi)
  have L4 : ∀ (yr : Nat) (y2 : Int32), y2.toInt = (yr : Int) → yr < 100 → YSf md (ic 4).toInt (ic 5).toInt yr ≤ d.toInt → d.toInt < YSf md (ic 4).toInt (ic 5).toInt (min 100 (yr + 8)) → V X G A 4 Q n ad 0 0 E 5 [(0, .ref (ad 1)), (1, .int d), (2, .int y2), (3, .int 4)] [] := by
    intro yr y2 hy2 hyr hlo hhi
    refine v_iload_n C 3 dX0_yearOf_5 rfl rfl ?_
    refine b_if_le C 40 dX0_yearOf_6 (by decide) (show (4 : Int32).toInt = 4 by decide) (fun c1 => absurd c1 (by decide)) (fun c1 => ?_)
    refine v_iload_n C 2 dX0_yearOf_9 rfl rfl ?_
    refine v_iload_n C 3 dX0_yearOf_10 rfl rfl ?_
    refine v_iadd C dX0_yearOf_11 ?_
    refine v_top (fun x2 ex2 => ?_)
    have hx2 : x2.toInt = ((yr : Int) + 4) := by rw [ex2]; exact ti_add hy2 (show (4 : Int32).toInt = 4 by decide) (by omega) (by omega)
    refine v_bipush (v := 100) C dX0_yearOf_12 (by decide) ?_
    refine b_icmp_ge C 33 dX0_yearOf_14 (by decide) hx2 (show (100 : Int32).toInt = 100 by decide) (fun c3 => ?_) (fun c3 => ?_)
    · refine v_iload_n C 3 dX0_yearOf_33 rfl rfl ?_
      refine v_iconst (v := 1) C dX0_yearOf_34 (by decide) ?_
      refine v_ishr C dX0_yearOf_35 ?_
      refine v_eq (y := 2) (by decide) ?_
      refine v_istore_n (lv' := [(0, .ref (ad 1)), (1, .int d), (2, .int y2), (3, .int 2)]) C [1, 2, 3, 0] dX0_yearOf_36 rfl (by decide) rfl ?_
      refine v_goto C 5 dX0_yearOf_37 (by decide) ?_
      exact L2 yr y2 hy2 hyr hlo (by rw [show min 100 (yr + 4) = 100 by omega]; exact hd2)
    · refine v_aload_n C 0 dX0_yearOf_17 rfl rfl ?_
      refine v_getr C 1 dX0_yearOf_18 fX0_21 (by omega) hE1 rfl rfl ?_
      refine v_iload_n C 2 dX0_yearOf_21 rfl rfl ?_
      refine v_iload_n C 3 dX0_yearOf_22 rfl rfl ?_
      refine v_iadd C dX0_yearOf_23 ?_
      refine v_top (fun x4 ex4 => ?_)
      have hx4 : x4.toInt = ((yr : Int) + 4) := by rw [ex4]; exact ti_add hy2 (show (4 : Int32).toInt = 4 by decide) (by omega) (by omega)
      refine v_ald (v := ys (yr + 4)) C 5 dX0_yearOf_24 (by omega) hE5 (ti_in hx4 (by omega) (by omega)) (by rw [ti_cl hx4, show Int.toNat ((yr : Int) + 4) = yr + 4 by omega]) ?_
      have qy := hF.2.2 (yr + 4) (by omega)
      refine v_iload_n C 1 dX0_yearOf_25 rfl rfl ?_
      refine b_icmp_gt C 33 dX0_yearOf_26 (by decide) (rfl : Int32.toInt (ys (yr + 4)) = _) (rfl : Int32.toInt d = _) (fun c5 => ?_) (fun c5 => ?_)
      · refine v_iload_n C 3 dX0_yearOf_33 rfl rfl ?_
        refine v_iconst (v := 1) C dX0_yearOf_34 (by decide) ?_
        refine v_ishr C dX0_yearOf_35 ?_
        refine v_eq (y := 2) (by decide) ?_
        refine v_istore_n (lv' := [(0, .ref (ad 1)), (1, .int d), (2, .int y2), (3, .int 2)]) C [1, 2, 3, 0] dX0_yearOf_36 rfl (by decide) rfl ?_
        refine v_goto C 5 dX0_yearOf_37 (by decide) ?_
        exact L2 yr y2 hy2 hyr hlo (by rw [show min 100 (yr + 4) = yr + 4 by omega]; omega)
      · refine v_iload_n C 2 dX0_yearOf_29 rfl rfl ?_
        refine v_iload_n C 3 dX0_yearOf_30 rfl rfl ?_
        refine v_iadd C dX0_yearOf_31 ?_
        refine v_top (fun x6 ex6 => ?_)
        have hx6 : x6.toInt = ((yr : Int) + 4) := by rw [ex6]; exact ti_add hy2 (show (4 : Int32).toInt = 4 by decide) (by omega) (by omega)
        refine v_istore_n (lv' := [(0, .ref (ad 1)), (1, .int d), (2, .int x6), (3, .int 4)]) C [1, 2, 0, 3] dX0_yearOf_32 rfl (by decide) rfl ?_
        refine v_iload_n C 3 dX0_yearOf_33 rfl rfl ?_
        refine v_iconst (v := 1) C dX0_yearOf_34 (by decide) ?_
        refine v_ishr C dX0_yearOf_35 ?_
        refine v_eq (y := 2) (by decide) ?_
        refine v_istore_n (lv' := [(0, .ref (ad 1)), (1, .int d), (2, .int x6), (3, .int 2)]) C [1, 2, 3, 0] dX0_yearOf_36 rfl (by decide) rfl ?_
        refine v_goto C 5 dX0_yearOf_37 (by decide) ?_
        exact L2 (yr + 4) x6 (by rw [hx6]; omega) (by omega) (by omega) (by rw [show min 100 (yr + 4 + 4) = min 100 (yr + 8) by omega]; exact hhi)
  have L8 : ∀ (yr : Nat) (y2 : Int32), y2.toInt = (yr : Int) → yr < 100 → YSf md (ic 4).toInt (ic 5).toInt yr ≤ d.toInt → d.toInt < YSf md (ic 4).toInt (ic 5).toInt (min 100 (yr + 16)) → V X G A 4 Q n ad 0 0 E 5 [(0, .ref (ad 1)), (1, .int d), (2, .int y2), (3, .int 8)] [] := by
    intro yr y2 hy2 hyr hlo hhi
    refine v_iload_n C 3 dX0_yearOf_5 rfl rfl ?_
    refine b_if_le C 40 dX0_yearOf_6 (by decide) (show (8 : Int32).toInt = 8 by decide) (fun c1 => absurd c1 (by decide)) (fun c1 => ?_)
    refine v_iload_n C 2 dX0_yearOf_9 rfl rfl ?_
    refine v_iload_n C 3 dX0_yearOf_10 rfl rfl ?_
    refine v_iadd C dX0_yearOf_11 ?_
    refine v_top (fun x2 ex2 => ?_)
    have hx2 : x2.toInt = ((yr : Int) + 8) := by rw [ex2]; exact ti_add hy2 (show (8 : Int32).toInt = 8 by decide) (by omega) (by omega)
    refine v_bipush (v := 100) C dX0_yearOf_12 (by decide) ?_
    refine b_icmp_ge C 33 dX0_yearOf_14 (by decide) hx2 (show (100 : Int32).toInt = 100 by decide) (fun c3 => ?_) (fun c3 => ?_)
    · refine v_iload_n C 3 dX0_yearOf_33 rfl rfl ?_
      refine v_iconst (v := 1) C dX0_yearOf_34 (by decide) ?_
      refine v_ishr C dX0_yearOf_35 ?_
      refine v_eq (y := 4) (by decide) ?_
      refine v_istore_n (lv' := [(0, .ref (ad 1)), (1, .int d), (2, .int y2), (3, .int 4)]) C [1, 2, 3, 0] dX0_yearOf_36 rfl (by decide) rfl ?_
      refine v_goto C 5 dX0_yearOf_37 (by decide) ?_
      exact L4 yr y2 hy2 hyr hlo (by rw [show min 100 (yr + 8) = 100 by omega]; exact hd2)
    · refine v_aload_n C 0 dX0_yearOf_17 rfl rfl ?_
      refine v_getr C 1 dX0_yearOf_18 fX0_21 (by omega) hE1 rfl rfl ?_
      refine v_iload_n C 2 dX0_yearOf_21 rfl rfl ?_
      refine v_iload_n C 3 dX0_yearOf_22 rfl rfl ?_
      refine v_iadd C dX0_yearOf_23 ?_
      refine v_top (fun x4 ex4 => ?_)
      have hx4 : x4.toInt = ((yr : Int) + 8) := by rw [ex4]; exact ti_add hy2 (show (8 : Int32).toInt = 8 by decide) (by omega) (by omega)
      refine v_ald (v := ys (yr + 8)) C 5 dX0_yearOf_24 (by omega) hE5 (ti_in hx4 (by omega) (by omega)) (by rw [ti_cl hx4, show Int.toNat ((yr : Int) + 8) = yr + 8 by omega]) ?_
      have qy := hF.2.2 (yr + 8) (by omega)
      refine v_iload_n C 1 dX0_yearOf_25 rfl rfl ?_
      refine b_icmp_gt C 33 dX0_yearOf_26 (by decide) (rfl : Int32.toInt (ys (yr + 8)) = _) (rfl : Int32.toInt d = _) (fun c5 => ?_) (fun c5 => ?_)
      · refine v_iload_n C 3 dX0_yearOf_33 rfl rfl ?_
        refine v_iconst (v := 1) C dX0_yearOf_34 (by decide) ?_
        refine v_ishr C dX0_yearOf_35 ?_
        refine v_eq (y := 4) (by decide) ?_
        refine v_istore_n (lv' := [(0, .ref (ad 1)), (1, .int d), (2, .int y2), (3, .int 4)]) C [1, 2, 3, 0] dX0_yearOf_36 rfl (by decide) rfl ?_
        refine v_goto C 5 dX0_yearOf_37 (by decide) ?_
        exact L4 yr y2 hy2 hyr hlo (by rw [show min 100 (yr + 8) = yr + 8 by omega]; omega)
      · refine v_iload_n C 2 dX0_yearOf_29 rfl rfl ?_
        refine v_iload_n C 3 dX0_yearOf_30 rfl rfl ?_
        refine v_iadd C dX0_yearOf_31 ?_
        refine v_top (fun x6 ex6 => ?_)
        have hx6 : x6.toInt = ((yr : Int) + 8) := by rw [ex6]; exact ti_add hy2 (show (8 : Int32).toInt = 8 by decide) (by omega) (by omega)
        refine v_istore_n (lv' := [(0, .ref (ad 1)), (1, .int d), (2, .int x6), (3, .int 8)]) C [1, 2, 0, 3] dX0_yearOf_32 rfl (by decide) rfl ?_
        refine v_iload_n C 3 dX0_yearOf_33 rfl rfl ?_
        refine v_iconst (v := 1) C dX0_yearOf_34 (by decide) ?_
        refine v_ishr C dX0_yearOf_35 ?_
        refine v_eq (y := 4) (by decide) ?_
        refine v_istore_n (lv' := [(0, .ref (ad 1)), (1, .int d), (2, .int x6), (3, .int 4)]) C [1, 2, 3, 0] dX0_yearOf_36 rfl (by decide) rfl ?_
        refine v_goto C 5 dX0_yearOf_37 (by decide) ?_
        exact L4 (yr + 8) x6 (by rw [hx6]; omega) (by omega) (by omega) (by rw [show min 100 (yr + 8 + 8) = min 100 (yr + 16) by omega]; exact hhi)
  have L16 : ∀ (yr : Nat) (y2 : Int32), y2.toInt = (yr : Int) → yr < 100 → YSf md (ic 4).toInt (ic 5).toInt yr ≤ d.toInt → d.toInt < YSf md (ic 4).toInt (ic 5).toInt (min 100 (yr + 32)) → V X G A 4 Q n ad 0 0 E 5 [(0, .ref (ad 1)), (1, .int d), (2, .int y2), (3, .int 16)] [] := by
    intro yr y2 hy2 hyr hlo hhi
    refine v_iload_n C 3 dX0_yearOf_5 rfl rfl ?_
    refine b_if_le C 40 dX0_yearOf_6 (by decide) (show (16 : Int32).toInt = 16 by decide) (fun c1 => absurd c1 (by decide)) (fun c1 => ?_)
    refine v_iload_n C 2 dX0_yearOf_9 rfl rfl ?_
    refine v_iload_n C 3 dX0_yearOf_10 rfl rfl ?_
    refine v_iadd C dX0_yearOf_11 ?_
    refine v_top (fun x2 ex2 => ?_)
    have hx2 : x2.toInt = ((yr : Int) + 16) := by rw [ex2]; exact ti_add hy2 (show (16 : Int32).toInt = 16 by decide) (by omega) (by omega)
    refine v_bipush (v := 100) C dX0_yearOf_12 (by decide) ?_
    refine b_icmp_ge C 33 dX0_yearOf_14 (by decide) hx2 (show (100 : Int32).toInt = 100 by decide) (fun c3 => ?_) (fun c3 => ?_)
    · refine v_iload_n C 3 dX0_yearOf_33 rfl rfl ?_
      refine v_iconst (v := 1) C dX0_yearOf_34 (by decide) ?_
      refine v_ishr C dX0_yearOf_35 ?_
      refine v_eq (y := 8) (by decide) ?_
      refine v_istore_n (lv' := [(0, .ref (ad 1)), (1, .int d), (2, .int y2), (3, .int 8)]) C [1, 2, 3, 0] dX0_yearOf_36 rfl (by decide) rfl ?_
      refine v_goto C 5 dX0_yearOf_37 (by decide) ?_
      exact L8 yr y2 hy2 hyr hlo (by rw [show min 100 (yr + 16) = 100 by omega]; exact hd2)
    · refine v_aload_n C 0 dX0_yearOf_17 rfl rfl ?_
      refine v_getr C 1 dX0_yearOf_18 fX0_21 (by omega) hE1 rfl rfl ?_
      refine v_iload_n C 2 dX0_yearOf_21 rfl rfl ?_
      refine v_iload_n C 3 dX0_yearOf_22 rfl rfl ?_
      refine v_iadd C dX0_yearOf_23 ?_
      refine v_top (fun x4 ex4 => ?_)
      have hx4 : x4.toInt = ((yr : Int) + 16) := by rw [ex4]; exact ti_add hy2 (show (16 : Int32).toInt = 16 by decide) (by omega) (by omega)
      refine v_ald (v := ys (yr + 16)) C 5 dX0_yearOf_24 (by omega) hE5 (ti_in hx4 (by omega) (by omega)) (by rw [ti_cl hx4, show Int.toNat ((yr : Int) + 16) = yr + 16 by omega]) ?_
      have qy := hF.2.2 (yr + 16) (by omega)
      refine v_iload_n C 1 dX0_yearOf_25 rfl rfl ?_
      refine b_icmp_gt C 33 dX0_yearOf_26 (by decide) (rfl : Int32.toInt (ys (yr + 16)) = _) (rfl : Int32.toInt d = _) (fun c5 => ?_) (fun c5 => ?_)
      · refine v_iload_n C 3 dX0_yearOf_33 rfl rfl ?_
        refine v_iconst (v := 1) C dX0_yearOf_34 (by decide) ?_
        refine v_ishr C dX0_yearOf_35 ?_
        refine v_eq (y := 8) (by decide) ?_
        refine v_istore_n (lv' := [(0, .ref (ad 1)), (1, .int d), (2, .int y2), (3, .int 8)]) C [1, 2, 3, 0] dX0_yearOf_36 rfl (by decide) rfl ?_
        refine v_goto C 5 dX0_yearOf_37 (by decide) ?_
        exact L8 yr y2 hy2 hyr hlo (by rw [show min 100 (yr + 16) = yr + 16 by omega]; omega)
      · refine v_iload_n C 2 dX0_yearOf_29 rfl rfl ?_
        refine v_iload_n C 3 dX0_yearOf_30 rfl rfl ?_
        refine v_iadd C dX0_yearOf_31 ?_
        refine v_top (fun x6 ex6 => ?_)
        have hx6 : x6.toInt = ((yr : Int) + 16) := by rw [ex6]; exact ti_add hy2 (show (16 : Int32).toInt = 16 by decide) (by omega) (by omega)
        refine v_istore_n (lv' := [(0, .ref (ad 1)), (1, .int d), (2, .int x6), (3, .int 16)]) C [1, 2, 0, 3] dX0_yearOf_32 rfl (by decide) rfl ?_
        refine v_iload_n C 3 dX0_yearOf_33 rfl rfl ?_
        refine v_iconst (v := 1) C dX0_yearOf_34 (by decide) ?_
        refine v_ishr C dX0_yearOf_35 ?_
        refine v_eq (y := 8) (by decide) ?_
        refine v_istore_n (lv' := [(0, .ref (ad 1)), (1, .int d), (2, .int x6), (3, .int 8)]) C [1, 2, 3, 0] dX0_yearOf_36 rfl (by decide) rfl ?_
        refine v_goto C 5 dX0_yearOf_37 (by decide) ?_
        exact L8 (yr + 16) x6 (by rw [hx6]; omega) (by omega) (by omega) (by rw [show min 100 (yr + 16 + 16) = min 100 (yr + 32) by omega]; exact hhi)
  have L32 : ∀ (yr : Nat) (y2 : Int32), y2.toInt = (yr : Int) → yr < 100 → YSf md (ic 4).toInt (ic 5).toInt yr ≤ d.toInt → d.toInt < YSf md (ic 4).toInt (ic 5).toInt (min 100 (yr + 64)) → V X G A 4 Q n ad 0 0 E 5 [(0, .ref (ad 1)), (1, .int d), (2, .int y2), (3, .int 32)] [] := by
    intro yr y2 hy2 hyr hlo hhi
    refine v_iload_n C 3 dX0_yearOf_5 rfl rfl ?_
    refine b_if_le C 40 dX0_yearOf_6 (by decide) (show (32 : Int32).toInt = 32 by decide) (fun c1 => absurd c1 (by decide)) (fun c1 => ?_)
    refine v_iload_n C 2 dX0_yearOf_9 rfl rfl ?_
    refine v_iload_n C 3 dX0_yearOf_10 rfl rfl ?_
    refine v_iadd C dX0_yearOf_11 ?_
    refine v_top (fun x2 ex2 => ?_)
    have hx2 : x2.toInt = ((yr : Int) + 32) := by rw [ex2]; exact ti_add hy2 (show (32 : Int32).toInt = 32 by decide) (by omega) (by omega)
    refine v_bipush (v := 100) C dX0_yearOf_12 (by decide) ?_
    refine b_icmp_ge C 33 dX0_yearOf_14 (by decide) hx2 (show (100 : Int32).toInt = 100 by decide) (fun c3 => ?_) (fun c3 => ?_)
    · refine v_iload_n C 3 dX0_yearOf_33 rfl rfl ?_
      refine v_iconst (v := 1) C dX0_yearOf_34 (by decide) ?_
      refine v_ishr C dX0_yearOf_35 ?_
      refine v_eq (y := 16) (by decide) ?_
      refine v_istore_n (lv' := [(0, .ref (ad 1)), (1, .int d), (2, .int y2), (3, .int 16)]) C [1, 2, 3, 0] dX0_yearOf_36 rfl (by decide) rfl ?_
      refine v_goto C 5 dX0_yearOf_37 (by decide) ?_
      exact L16 yr y2 hy2 hyr hlo (by rw [show min 100 (yr + 32) = 100 by omega]; exact hd2)
    · refine v_aload_n C 0 dX0_yearOf_17 rfl rfl ?_
      refine v_getr C 1 dX0_yearOf_18 fX0_21 (by omega) hE1 rfl rfl ?_
      refine v_iload_n C 2 dX0_yearOf_21 rfl rfl ?_
      refine v_iload_n C 3 dX0_yearOf_22 rfl rfl ?_
      refine v_iadd C dX0_yearOf_23 ?_
      refine v_top (fun x4 ex4 => ?_)
      have hx4 : x4.toInt = ((yr : Int) + 32) := by rw [ex4]; exact ti_add hy2 (show (32 : Int32).toInt = 32 by decide) (by omega) (by omega)
      refine v_ald (v := ys (yr + 32)) C 5 dX0_yearOf_24 (by omega) hE5 (ti_in hx4 (by omega) (by omega)) (by rw [ti_cl hx4, show Int.toNat ((yr : Int) + 32) = yr + 32 by omega]) ?_
      have qy := hF.2.2 (yr + 32) (by omega)
      refine v_iload_n C 1 dX0_yearOf_25 rfl rfl ?_
      refine b_icmp_gt C 33 dX0_yearOf_26 (by decide) (rfl : Int32.toInt (ys (yr + 32)) = _) (rfl : Int32.toInt d = _) (fun c5 => ?_) (fun c5 => ?_)
      · refine v_iload_n C 3 dX0_yearOf_33 rfl rfl ?_
        refine v_iconst (v := 1) C dX0_yearOf_34 (by decide) ?_
        refine v_ishr C dX0_yearOf_35 ?_
        refine v_eq (y := 16) (by decide) ?_
        refine v_istore_n (lv' := [(0, .ref (ad 1)), (1, .int d), (2, .int y2), (3, .int 16)]) C [1, 2, 3, 0] dX0_yearOf_36 rfl (by decide) rfl ?_
        refine v_goto C 5 dX0_yearOf_37 (by decide) ?_
        exact L16 yr y2 hy2 hyr hlo (by rw [show min 100 (yr + 32) = yr + 32 by omega]; omega)
      · refine v_iload_n C 2 dX0_yearOf_29 rfl rfl ?_
        refine v_iload_n C 3 dX0_yearOf_30 rfl rfl ?_
        refine v_iadd C dX0_yearOf_31 ?_
        refine v_top (fun x6 ex6 => ?_)
        have hx6 : x6.toInt = ((yr : Int) + 32) := by rw [ex6]; exact ti_add hy2 (show (32 : Int32).toInt = 32 by decide) (by omega) (by omega)
        refine v_istore_n (lv' := [(0, .ref (ad 1)), (1, .int d), (2, .int x6), (3, .int 32)]) C [1, 2, 0, 3] dX0_yearOf_32 rfl (by decide) rfl ?_
        refine v_iload_n C 3 dX0_yearOf_33 rfl rfl ?_
        refine v_iconst (v := 1) C dX0_yearOf_34 (by decide) ?_
        refine v_ishr C dX0_yearOf_35 ?_
        refine v_eq (y := 16) (by decide) ?_
        refine v_istore_n (lv' := [(0, .ref (ad 1)), (1, .int d), (2, .int x6), (3, .int 16)]) C [1, 2, 3, 0] dX0_yearOf_36 rfl (by decide) rfl ?_
        refine v_goto C 5 dX0_yearOf_37 (by decide) ?_
        exact L16 (yr + 32) x6 (by rw [hx6]; omega) (by omega) (by omega) (by rw [show min 100 (yr + 32 + 32) = min 100 (yr + 64) by omega]; exact hhi)
  have L64 : ∀ (yr : Nat) (y2 : Int32), y2.toInt = (yr : Int) → yr < 100 → YSf md (ic 4).toInt (ic 5).toInt yr ≤ d.toInt → d.toInt < YSf md (ic 4).toInt (ic 5).toInt (min 100 (yr + 128)) → V X G A 4 Q n ad 0 0 E 5 [(0, .ref (ad 1)), (1, .int d), (2, .int y2), (3, .int 64)] [] := by
    intro yr y2 hy2 hyr hlo hhi
    refine v_iload_n C 3 dX0_yearOf_5 rfl rfl ?_
    refine b_if_le C 40 dX0_yearOf_6 (by decide) (show (64 : Int32).toInt = 64 by decide) (fun c1 => absurd c1 (by decide)) (fun c1 => ?_)
    refine v_iload_n C 2 dX0_yearOf_9 rfl rfl ?_
    refine v_iload_n C 3 dX0_yearOf_10 rfl rfl ?_
    refine v_iadd C dX0_yearOf_11 ?_
    refine v_top (fun x2 ex2 => ?_)
    have hx2 : x2.toInt = ((yr : Int) + 64) := by rw [ex2]; exact ti_add hy2 (show (64 : Int32).toInt = 64 by decide) (by omega) (by omega)
    refine v_bipush (v := 100) C dX0_yearOf_12 (by decide) ?_
    refine b_icmp_ge C 33 dX0_yearOf_14 (by decide) hx2 (show (100 : Int32).toInt = 100 by decide) (fun c3 => ?_) (fun c3 => ?_)
    · refine v_iload_n C 3 dX0_yearOf_33 rfl rfl ?_
      refine v_iconst (v := 1) C dX0_yearOf_34 (by decide) ?_
      refine v_ishr C dX0_yearOf_35 ?_
      refine v_eq (y := 32) (by decide) ?_
      refine v_istore_n (lv' := [(0, .ref (ad 1)), (1, .int d), (2, .int y2), (3, .int 32)]) C [1, 2, 3, 0] dX0_yearOf_36 rfl (by decide) rfl ?_
      refine v_goto C 5 dX0_yearOf_37 (by decide) ?_
      exact L32 yr y2 hy2 hyr hlo (by rw [show min 100 (yr + 64) = 100 by omega]; exact hd2)
    · refine v_aload_n C 0 dX0_yearOf_17 rfl rfl ?_
      refine v_getr C 1 dX0_yearOf_18 fX0_21 (by omega) hE1 rfl rfl ?_
      refine v_iload_n C 2 dX0_yearOf_21 rfl rfl ?_
      refine v_iload_n C 3 dX0_yearOf_22 rfl rfl ?_
      refine v_iadd C dX0_yearOf_23 ?_
      refine v_top (fun x4 ex4 => ?_)
      have hx4 : x4.toInt = ((yr : Int) + 64) := by rw [ex4]; exact ti_add hy2 (show (64 : Int32).toInt = 64 by decide) (by omega) (by omega)
      refine v_ald (v := ys (yr + 64)) C 5 dX0_yearOf_24 (by omega) hE5 (ti_in hx4 (by omega) (by omega)) (by rw [ti_cl hx4, show Int.toNat ((yr : Int) + 64) = yr + 64 by omega]) ?_
      have qy := hF.2.2 (yr + 64) (by omega)
      refine v_iload_n C 1 dX0_yearOf_25 rfl rfl ?_
      refine b_icmp_gt C 33 dX0_yearOf_26 (by decide) (rfl : Int32.toInt (ys (yr + 64)) = _) (rfl : Int32.toInt d = _) (fun c5 => ?_) (fun c5 => ?_)
      · refine v_iload_n C 3 dX0_yearOf_33 rfl rfl ?_
        refine v_iconst (v := 1) C dX0_yearOf_34 (by decide) ?_
        refine v_ishr C dX0_yearOf_35 ?_
        refine v_eq (y := 32) (by decide) ?_
        refine v_istore_n (lv' := [(0, .ref (ad 1)), (1, .int d), (2, .int y2), (3, .int 32)]) C [1, 2, 3, 0] dX0_yearOf_36 rfl (by decide) rfl ?_
        refine v_goto C 5 dX0_yearOf_37 (by decide) ?_
        exact L32 yr y2 hy2 hyr hlo (by rw [show min 100 (yr + 64) = yr + 64 by omega]; omega)
      · refine v_iload_n C 2 dX0_yearOf_29 rfl rfl ?_
        refine v_iload_n C 3 dX0_yearOf_30 rfl rfl ?_
        refine v_iadd C dX0_yearOf_31 ?_
        refine v_top (fun x6 ex6 => ?_)
        have hx6 : x6.toInt = ((yr : Int) + 64) := by rw [ex6]; exact ti_add hy2 (show (64 : Int32).toInt = 64 by decide) (by omega) (by omega)
        refine v_istore_n (lv' := [(0, .ref (ad 1)), (1, .int d), (2, .int x6), (3, .int 64)]) C [1, 2, 0, 3] dX0_yearOf_32 rfl (by decide) rfl ?_
        refine v_iload_n C 3 dX0_yearOf_33 rfl rfl ?_
        refine v_iconst (v := 1) C dX0_yearOf_34 (by decide) ?_
        refine v_ishr C dX0_yearOf_35 ?_
        refine v_eq (y := 32) (by decide) ?_
        refine v_istore_n (lv' := [(0, .ref (ad 1)), (1, .int d), (2, .int x6), (3, .int 32)]) C [1, 2, 3, 0] dX0_yearOf_36 rfl (by decide) rfl ?_
        refine v_goto C 5 dX0_yearOf_37 (by decide) ?_
        exact L32 (yr + 64) x6 (by rw [hx6]; omega) (by omega) (by omega) (by rw [show min 100 (yr + 64 + 64) = min 100 (yr + 128) by omega]; exact hhi)
  intro yr y2 h1 h2 h3 h0
  exact L64 yr y2 h1 h2 h3 (by rw [show min 100 (yr + 128) = 100 by omega]; exact hd2)

set_option maxRecDepth 20000 in
theorem c_yearOf (l : Launch) (G : Gl) (n : Nat) (ad : Nat → Nat) (E : Nat → va_E) (hn : 6 ≤ n) {ic md ms ld ys : Nat → Int32} (hE1 : E 1 = ob 0 (rfs ad [2, 3, 4, 5]) ic) (hE2 : E 2 = aI G 12 md) (hE3 : E 3 = aI G 12 ms) (hE4 : E 4 = aI G 100 ld) (hE5 : E 5 = aI G 101 ys) (hP : CalP ic md) (hF : CalF ic md ms ld ys) (d : Int32) (hd1 : 0 ≤ d.toInt) (hd2 : d.toInt < YSf md (ic 4).toInt (ic 5).toInt 100)  : CtI l G yX0_yearOf cX0_yearOf 4 .int 0 0 n ad E [.ref (ad 1), .int d] (fun r E' => (∃ yy : Nat, yy < 100 ∧ r.toInt = (yy : Int) ∧ YSf md (ic 4).toInt (ic 5).toInt yy ≤ d.toInt ∧ d.toInt < YSf md (ic 4).toInt (ic 5).toInt (yy + 1)) ∧ E = E') := by
  refine CtI.of (by decide) (Nat.le_of_ble_eq_true rfl) (fun X A C => ?_)
  refine v_sub (lv' := [(0, .ref (ad 1)), (1, .int d)]) [0, 1] rfl ?_
  refine v_iconst (v := 0) C dX0_yearOf_0 (by decide) ?_
  refine v_istore_n (lv' := [(0, .ref (ad 1)), (1, .int d), (2, .int 0)]) C [1, 2, 0] dX0_yearOf_1 rfl (by decide) rfl ?_
  refine v_bipush (v := 64) C dX0_yearOf_2 (by decide) ?_
  refine v_istore_n (lv' := [(0, .ref (ad 1)), (1, .int d), (2, .int 0), (3, .int 64)]) C [1, 2, 3, 0] dX0_yearOf_4 rfl (by decide) rfl ?_
  refine lp_yearOf C E hn hE1 hE2 hE3 hE4 hE5 hP hF d hd2 (fun yr y2 h1 h2 h3 h4 => ?_) 0 0 (show (0 : Int32).toInt = 0 by decide) (by decide) hd1 rfl
  refine v_iload_n C 2 dX0_yearOf_40 rfl rfl ?_
  exact v_ret C dX0_yearOf_41 rfl rfl ⟨⟨yr, h2, h1, h3, h4⟩, rfl⟩

set_option maxRecDepth 20000 in
theorem lp_monthOf {X : Mx} {l : Launch} {G : Gl} {A : Nat → Prop} {ret : Option FieldType} {R : Room} {Q : State → Prop} {n : Nat} {ad : Nat → Nat} (C : Cx X l G A "OddHours$Calendar" cX0_monthOf 7 ret R) (E : Nat → va_E) (hn : 6 ≤ n) {ic md ms ld ys : Nat → Int32} (hE1 : E 1 = ob 0 (rfs ad [2, 3, 4, 5]) ic) (hE2 : E 2 = aI G 12 md) (hE3 : E 3 = aI G 12 ms) (hE4 : E 4 = aI G 100 ld) (hE5 : E 5 = aI G 101 ys) (hP : CalP ic md) (hF : CalF ic md ms ld ys) (y d x3 : Int32) {yy : Nat} (hy : y.toInt = (yy : Int)) (hy2 : yy < 100) (hx3 : x3.toInt = d.toInt - YSf md (ic 4).toInt (ic 5).toInt yy)
    (kont : ∀ (mm : Nat) (x4 x5 : Int32), x4.toInt = (mm : Int) → mm < 12 → FDf ic md yy mm ≤ d.toInt → (mm + 1 < 12 → d.toInt < FDf ic md yy (mm + 1)) → V X G A 7 Q n ad 0 0 E 67 [(0, .ref (ad 1)), (1, .int y), (2, .int d), (3, .int x3), (4, .int x4), (5, .int x5)] []) :
    ∀ (t k mm : Nat) (x4 x5 : Int32), k + t = 12 → 1 ≤ k → x5.toInt = (k : Int) → x4.toInt = (mm : Int) → mm < k → FDf ic md yy mm ≤ d.toInt → (mm + 1 < k → d.toInt < FDf ic md yy (mm + 1)) → V X G A 7 Q n ad 0 0 E 15 [(0, .ref (ad 1)), (1, .int y), (2, .int d), (3, .int x3), (4, .int x4), (5, .int x5)] [] := by
  intro t
  induction t with
  | zero =>
    intro k mm x4 x5 hk hk1 hx5 hx4 hmk hlo hhi
    refine v_iload C 5 dX0_monthOf_15 rfl ?_
    refine v_bipush (v := 12) C dX0_monthOf_17 (by decide) ?_
    refine b_icmp_ge C 67 dX0_monthOf_19 (by decide) hx5 (show (12 : Int32).toInt = 12 by decide) (fun c51 => ?_) (fun c51 => by exfalso; omega)
    exact kont mm x4 x5 hx4 (by omega) hlo (fun h => hhi (by omega))
  | succ t ih =>
    intro k mm x4 x5 hk hk1 hx5 hx4 hmk hlo hhi
    refine v_iload C 5 dX0_monthOf_15 rfl ?_
    refine v_bipush (v := 12) C dX0_monthOf_17 (by decide) ?_
    refine b_icmp_ge C 67 dX0_monthOf_19 (by decide) hx5 (show (12 : Int32).toInt = 12 by decide) (fun c51 => by exfalso; omega) (fun c51 => ?_)
    have qs := hF.1 k (by omega)
    have qM := MS_b hP.1 k (by omega)
    have ql := hF.2.1 yy hy2
    have qb := LP_01 (ic 4).toInt (ic 5).toInt yy
    refine v_aload_n C 0 dX0_monthOf_22 rfl rfl ?_
    refine v_getr C 1 dX0_monthOf_23 fX0_15 (by omega) hE1 rfl rfl ?_
    refine v_iload C 5 dX0_monthOf_26 rfl ?_
    refine v_ald (v := ms k) C 3 dX0_monthOf_28 (by omega) hE3 (ti_in hx5 (by omega) (by omega)) (by rw [ti_cl hx5, show Int.toNat (k : Int) = k by omega]) ?_
    refine v_iload C 5 dX0_monthOf_29 rfl ?_
    refine v_aload_n C 0 dX0_monthOf_31 rfl rfl ?_
    refine v_geti (v := ic 6) C 1 dX0_monthOf_32 fX0_31 (by omega) hE1 rfl rfl ?_
    refine b_icmp_le C 47 dX0_monthOf_35 (by decide) hx5 (rfl : Int32.toInt (ic 6) = _) (fun c52 => ?_) (fun c52 => ?_)
    · refine v_iconst (v := 0) C dX0_monthOf_47 (by decide) ?_
      refine v_iadd C dX0_monthOf_48 ?_
      refine v_top (fun x53 ex53 => ?_)
      have hx53 : x53.toInt = ((ms k).toInt + 0) := by rw [ex53]; exact ti_add (rfl : Int32.toInt (ms k) = _) (show (0 : Int32).toInt = 0 by decide) (by omega) (by omega)
      refine v_istore (lv' := [(0, .ref (ad 1)), (1, .int y), (2, .int d), (3, .int x3), (4, .int x4), (5, .int x5), (6, .int x53)]) C [1, 2, 3, 4, 5, 6, 0] dX0_monthOf_49 (by decide) rfl ?_
      refine v_iload C 6 dX0_monthOf_51 rfl ?_
      refine v_iload_n C 3 dX0_monthOf_53 rfl rfl ?_
      refine b_icmp_gt C 61 dX0_monthOf_54 (by decide) hx53 hx3 (fun c54 => ?_) (fun c54 => ?_)
      · obtain ⟨x55, ex55⟩ : ∃ y : Int32, y = x5 + 1 := ⟨_, rfl⟩
        have hx55 : x55.toInt = ((k : Int) + 1) := by rw [ex55]; exact ti_add hx5 (show (1 : Int32).toInt = 1 by decide) (by omega) (by omega)
        refine v_iinc (v := x55) (lv' := [(0, .ref (ad 1)), (1, .int y), (2, .int d), (3, .int x3), (4, .int x4), (5, .int x55), (6, .int x53)]) C 5 [1, 2, 3, 4, 5, 0, 6] dX0_monthOf_61 rfl (ex55.symm) (by decide) rfl ?_
        refine v_goto C 15 dX0_monthOf_64 (by decide) ?_
        refine v_sub (lv' := [(0, .ref (ad 1)), (1, .int y), (2, .int d), (3, .int x3), (4, .int x4), (5, .int x55)]) [0, 1, 2, 3, 4, 5] rfl ?_
        have hf56 : FDf ic md yy k = YSf md (ic 4).toInt (ic 5).toInt yy + MSf md k + 0 := by unfold FDf; rw [if_neg (by omega)]
        exact ih (k + 1) mm x4 x55 (by omega) (by omega) (by rw [hx55]; omega) hx4 (by omega) hlo (fun h => by by_cases h1 : mm + 1 < k; exact hhi h1; rw [show mm + 1 = k by omega]; omega)
      · refine v_iload C 5 dX0_monthOf_57 rfl ?_
        refine v_istore (lv' := [(0, .ref (ad 1)), (1, .int y), (2, .int d), (3, .int x3), (4, .int x5), (5, .int x5), (6, .int x53)]) C [1, 2, 3, 4, 0, 5, 6] dX0_monthOf_59 (by decide) rfl ?_
        obtain ⟨x57, ex57⟩ : ∃ y : Int32, y = x5 + 1 := ⟨_, rfl⟩
        have hx57 : x57.toInt = ((k : Int) + 1) := by rw [ex57]; exact ti_add hx5 (show (1 : Int32).toInt = 1 by decide) (by omega) (by omega)
        refine v_iinc (v := x57) (lv' := [(0, .ref (ad 1)), (1, .int y), (2, .int d), (3, .int x3), (4, .int x5), (5, .int x57), (6, .int x53)]) C 5 [1, 2, 3, 4, 5, 0, 6] dX0_monthOf_61 rfl (ex57.symm) (by decide) rfl ?_
        refine v_goto C 15 dX0_monthOf_64 (by decide) ?_
        refine v_sub (lv' := [(0, .ref (ad 1)), (1, .int y), (2, .int d), (3, .int x3), (4, .int x5), (5, .int x57)]) [0, 1, 2, 3, 4, 5] rfl ?_
        have hf58 : FDf ic md yy k = YSf md (ic 4).toInt (ic 5).toInt yy + MSf md k + 0 := by unfold FDf; rw [if_neg (by omega)]
        exact ih (k + 1) k x5 x57 (by omega) (by omega) (by rw [hx57]; omega) hx5 (by omega) (by omega) (fun h => by omega)
    · refine v_aload_n C 0 dX0_monthOf_38 rfl rfl ?_
      refine v_getr C 1 dX0_monthOf_39 fX0_18 (by omega) hE1 rfl rfl ?_
      refine v_iload_n C 1 dX0_monthOf_42 rfl rfl ?_
      refine v_ald (v := ld yy) C 4 dX0_monthOf_43 (by omega) hE4 (ti_in hy (by omega) (by omega)) (by rw [ti_cl hy, show Int.toNat (yy : Int) = yy by omega]) ?_
      refine v_goto C 48 dX0_monthOf_44 (by decide) ?_
      refine v_iadd C dX0_monthOf_48 ?_
      refine v_top (fun x59 ex59 => ?_)
      have hx59 : x59.toInt = ((ms k).toInt + (ld yy).toInt) := by rw [ex59]; exact ti_add (rfl : Int32.toInt (ms k) = _) (rfl : Int32.toInt (ld yy) = _) (by omega) (by omega)
      refine v_istore (lv' := [(0, .ref (ad 1)), (1, .int y), (2, .int d), (3, .int x3), (4, .int x4), (5, .int x5), (6, .int x59)]) C [1, 2, 3, 4, 5, 6, 0] dX0_monthOf_49 (by decide) rfl ?_
      refine v_iload C 6 dX0_monthOf_51 rfl ?_
      refine v_iload_n C 3 dX0_monthOf_53 rfl rfl ?_
      refine b_icmp_gt C 61 dX0_monthOf_54 (by decide) hx59 hx3 (fun c60 => ?_) (fun c60 => ?_)
      · obtain ⟨x61, ex61⟩ : ∃ y : Int32, y = x5 + 1 := ⟨_, rfl⟩
        have hx61 : x61.toInt = ((k : Int) + 1) := by rw [ex61]; exact ti_add hx5 (show (1 : Int32).toInt = 1 by decide) (by omega) (by omega)
        refine v_iinc (v := x61) (lv' := [(0, .ref (ad 1)), (1, .int y), (2, .int d), (3, .int x3), (4, .int x4), (5, .int x61), (6, .int x59)]) C 5 [1, 2, 3, 4, 5, 0, 6] dX0_monthOf_61 rfl (ex61.symm) (by decide) rfl ?_
        refine v_goto C 15 dX0_monthOf_64 (by decide) ?_
        refine v_sub (lv' := [(0, .ref (ad 1)), (1, .int y), (2, .int d), (3, .int x3), (4, .int x4), (5, .int x61)]) [0, 1, 2, 3, 4, 5] rfl ?_
        have hf62 : FDf ic md yy k = YSf md (ic 4).toInt (ic 5).toInt yy + MSf md k + LPf (ic 4).toInt (ic 5).toInt yy := by unfold FDf; rw [if_pos (by omega)]
        exact ih (k + 1) mm x4 x61 (by omega) (by omega) (by rw [hx61]; omega) hx4 (by omega) hlo (fun h => by by_cases h1 : mm + 1 < k; exact hhi h1; rw [show mm + 1 = k by omega]; omega)
      · refine v_iload C 5 dX0_monthOf_57 rfl ?_
        refine v_istore (lv' := [(0, .ref (ad 1)), (1, .int y), (2, .int d), (3, .int x3), (4, .int x5), (5, .int x5), (6, .int x59)]) C [1, 2, 3, 4, 0, 5, 6] dX0_monthOf_59 (by decide) rfl ?_
        obtain ⟨x63, ex63⟩ : ∃ y : Int32, y = x5 + 1 := ⟨_, rfl⟩
        have hx63 : x63.toInt = ((k : Int) + 1) := by rw [ex63]; exact ti_add hx5 (show (1 : Int32).toInt = 1 by decide) (by omega) (by omega)
        refine v_iinc (v := x63) (lv' := [(0, .ref (ad 1)), (1, .int y), (2, .int d), (3, .int x3), (4, .int x5), (5, .int x63), (6, .int x59)]) C 5 [1, 2, 3, 4, 5, 0, 6] dX0_monthOf_61 rfl (ex63.symm) (by decide) rfl ?_
        refine v_goto C 15 dX0_monthOf_64 (by decide) ?_
        refine v_sub (lv' := [(0, .ref (ad 1)), (1, .int y), (2, .int d), (3, .int x3), (4, .int x5), (5, .int x63)]) [0, 1, 2, 3, 4, 5] rfl ?_
        have hf64 : FDf ic md yy k = YSf md (ic 4).toInt (ic 5).toInt yy + MSf md k + LPf (ic 4).toInt (ic 5).toInt yy := by unfold FDf; rw [if_pos (by omega)]
        exact ih (k + 1) k x5 x63 (by omega) (by omega) (by rw [hx63]; omega) hx5 (by omega) (by omega) (fun h => by omega)

set_option maxRecDepth 20000 in
theorem c_monthOf (l : Launch) (G : Gl) (n : Nat) (ad : Nat → Nat) (E : Nat → va_E) (hn : 6 ≤ n) {ic md ms ld ys : Nat → Int32} (hE1 : E 1 = ob 0 (rfs ad [2, 3, 4, 5]) ic) (hE2 : E 2 = aI G 12 md) (hE3 : E 3 = aI G 12 ms) (hE4 : E 4 = aI G 100 ld) (hE5 : E 5 = aI G 101 ys) (hP : CalP ic md) (hF : CalF ic md ms ld ys) (y d : Int32) {yy : Nat} (hy : y.toInt = (yy : Int)) (hy2 : yy < 100) (hd1 : YSf md (ic 4).toInt (ic 5).toInt yy ≤ d.toInt) (hd2 : d.toInt < YSf md (ic 4).toInt (ic 5).toInt (yy + 1))  : CtI l G yX0_monthOf cX0_monthOf 7 .int 0 0 n ad E [.ref (ad 1), .int y, .int d] (fun r E' => (∃ mm : Nat, mm < 12 ∧ r.toInt = (mm : Int) ∧ FDf ic md yy mm ≤ d.toInt ∧ d.toInt < FDf ic md yy (mm + 1)) ∧ E = E') := by
  refine CtI.of (by decide) (Nat.le_of_ble_eq_true rfl) (fun X A C => ?_)
  refine v_sub (lv' := [(0, .ref (ad 1)), (1, .int y), (2, .int d)]) [0, 1, 2] rfl ?_
  have qy := hF.2.2 yy (by omega)
  have qB := YS_b (a := (ic 4).toInt) (b := (ic 5).toInt) hP.1 yy
  have h0 := FD_0 hP (y := yy)
  have h12 := FD_year hP (y := yy)
  have h1 := FD_0 hP (y := yy + 1)
  have qC := YS_b (a := (ic 4).toInt) (b := (ic 5).toInt) hP.1 (yy + 1)
  refine v_iload_n C 2 dX0_monthOf_0 rfl rfl ?_
  refine v_aload_n C 0 dX0_monthOf_1 rfl rfl ?_
  refine v_getr C 1 dX0_monthOf_2 fX0_21 (by omega) hE1 rfl rfl ?_
  refine v_iload_n C 1 dX0_monthOf_5 rfl rfl ?_
  refine v_ald (v := ys yy) C 5 dX0_monthOf_6 (by omega) hE5 (ti_in hy (by omega) (by omega)) (by rw [ti_cl hy, show Int.toNat (yy : Int) = yy by omega]) ?_
  refine v_isub C dX0_monthOf_7 ?_
  refine v_top (fun x1 ex1 => ?_)
  have hx1 : x1.toInt = (d.toInt - (ys yy).toInt) := by rw [ex1]; exact ti_sub (rfl : Int32.toInt d = _) (rfl : Int32.toInt (ys yy) = _) (by omega) (by omega)
  have hx1 : x1.toInt = (d.toInt - YSf md (ic 4).toInt (ic 5).toInt yy) := hx1.trans (by rw [qy])
  refine v_istore_n (lv' := [(0, .ref (ad 1)), (1, .int y), (2, .int d), (3, .int x1)]) C [1, 2, 3, 0] dX0_monthOf_8 rfl (by decide) rfl ?_
  refine v_iconst (v := 0) C dX0_monthOf_9 (by decide) ?_
  refine v_istore (lv' := [(0, .ref (ad 1)), (1, .int y), (2, .int d), (3, .int x1), (4, .int 0)]) C [1, 2, 3, 4, 0] dX0_monthOf_10 (by decide) rfl ?_
  refine v_iconst (v := 1) C dX0_monthOf_12 (by decide) ?_
  refine v_istore (lv' := [(0, .ref (ad 1)), (1, .int y), (2, .int d), (3, .int x1), (4, .int 0), (5, .int 1)]) C [1, 2, 3, 4, 5, 0] dX0_monthOf_13 (by decide) rfl ?_
  refine lp_monthOf C E hn hE1 hE2 hE3 hE4 hE5 hP hF y d x1 hy hy2 hx1 (fun mm x4 x5 g1 g2 g3 g4 => ?_) 11 1 0 0 1 (by omega) (by omega) (show (1 : Int32).toInt = 1 by decide) (show (0 : Int32).toInt = 0 by decide) (by omega) (by rw [h0]; exact hd1) (fun h => by omega)
  refine v_iload C 4 dX0_monthOf_67 rfl ?_
  exact v_ret C dX0_monthOf_69 rfl rfl ⟨⟨mm, g2, g1, g3, by by_cases h : mm + 1 < 12; exact g4 h; rw [show mm + 1 = 12 by omega, h12, h1]; exact hd2⟩, rfl⟩

