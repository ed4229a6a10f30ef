set_option maxRecDepth 20000 in
theorem t_X7_at (l : Launch) (G : Gl) (ad : Nat → Nat) {k : Nat} {E0 E : Nat → va_E} (hJ : J8 G ad k E0 E) (x : Int32) : CtQ l G yX7_at cX7_at 2 (.object "OddHours$Zone") 0 0 (98 + 9 * k) ad E [.ref (ad 6), .int x] (fun r E' => ((¬ ((0 : Int) ≤ x.toInt ∧ x.toInt < (k : Int)) ∧ r = none) ∨ ∃ i : Nat, (i : Int) = x.toInt ∧ i < k ∧ r = some (ad (98 + 9 * i))) ∧ E = E') := by
  refine CtQ.of (by decide) (Nat.le_of_ble_eq_true rfl) (fun X A C => ?_)
  refine v_sub (lv' := [(0, .ref (ad 6)), (1, .int x)]) [0, 1] rfl ?_
  have hk5 := hJ.1
  refine v_iload_n C 1 dX7_at_0 rfl rfl ?_
  refine b_if_lt C 21 dX7_at_1 (by decide) (rfl : Int32.toInt x = _) (fun c1 => ?_) (fun c1 => ?_)
  · refine v_null C dX7_at_21 ?_
    exact v_qret (v := none) C dX7_at_22 rfl ⟨Or.inl ⟨by omega, rfl⟩, rfl⟩
  · refine v_iload_n C 1 dX7_at_4 rfl rfl ?_
    refine v_aload_n C 0 dX7_at_5 rfl rfl ?_
    obtain ⟨i2, hE2, hb2⟩ := hJ.2.2.getO (b := 6) (by omega) rfl
    refine v_geti (v := i2 1) C 6 dX7_at_6 fX7_17 (by omega) hE2 rfl rfl ?_
    have hi2_1 : (k : Int) ≤ (i2 1).toInt ∧ (i2 1).toInt ≤ (k : Int) := hb2 1
    refine b_icmp_ge C 21 dX7_at_9 (by decide) (rfl : Int32.toInt x = _) (rfl : Int32.toInt (i2 1) = _) (fun c3 => ?_) (fun c3 => ?_)
    · refine v_null C dX7_at_21 ?_
      exact v_qret (v := none) C dX7_at_22 rfl ⟨Or.inl ⟨by omega, rfl⟩, rfl⟩
    · refine v_aload_n C 0 dX7_at_12 rfl rfl ?_
      refine v_getr C 6 dX7_at_13 fX7_11 (by omega) hE2 rfl rfl ?_
      refine v_iload_n C 1 dX7_at_16 rfl rfl ?_
      obtain ⟨fz4, hE4, hz4⟩ := hJ.c7
      obtain ⟨b5, eb5⟩ : ∃ q : Nat, q = 98 + 9 * ((x.toInt).toNat) := ⟨_, rfl⟩
      have hb5 : ZC k b5 := ⟨_, by omega, eb5⟩
      have hb5n := hb5.n
      refine v_aldZ (v := some (ad b5)) C 7 dX7_at_17 (by omega) hE4 (ti_in (rfl : Int32.toInt x = _) (by omega) (by omega)) (by rw [ti_cl (rfl : Int32.toInt x = _), eb5]; exact hz4 ((x.toInt).toNat) (by omega)) ?_
      refine v_goto C 22 dX7_at_18 (by decide) ?_
      exact v_qret (v := some (ad b5)) C dX7_at_22 rfl ⟨Or.inr ⟨(x.toInt).toNat, by omega, by omega, by rw [eb5]⟩, rfl⟩

set_option maxRecDepth 20000 in
theorem t_X7_refresh (l : Launch) (G : Gl) (ad : Nat → Nat) {k : Nat} {E0 E : Nat → va_E} (hJ : J8 G ad k E0 E) (x : Int32) : CtV l G yX7_refresh cX7_refresh 4 3 73 (98 + 9 * k) ad E [.ref (ad 6), .int x] (fun E' => J8 G ad k E0 E') := by
  refine CtV.of (by decide) (Nat.le_of_ble_eq_true rfl) (fun X A C => ?_)
  refine v_sub (lv' := [(0, .ref (ad 6)), (1, .int x)]) [0, 1] rfl ?_
  have hk5 := hJ.1
  refine v_iconst (v := 0) C dX7_refresh_0 (by decide) ?_
  refine v_istore_n (lv' := [(0, .ref (ad 6)), (1, .int x), (2, .int 0)]) C [1, 2, 0] dX7_refresh_1 rfl (by decide) rfl ?_
  have LP1 : ∀ (t : Nat) (E5 : Nat → va_E) (y2 : Int32) (y3 : Int32), J8 G ad k E0 E5 → ((0 : Int) ≤ y3.toInt ∧ y3.toInt ≤ 5) → (y3.toInt ≤ (k : Int)) → 6 - y3.toInt < (t : Int) → V X G A 4 (QV X G A (98 + 9 * k) ad (fun E' => J8 G ad k E0 E')) (98 + 9 * k) ad 0 0 E5 2 [(0, .ref (ad 6)), (1, .int y2), (2, .int y3)] [] := by
    intro t9
    induction t9 with
    | zero => intro E5 y2 y3 hJ6 hy3 hq4 hm8; exfalso; omega
    | succ t9 ih7 =>
      intro E5 y2 y3 hJ6 hy3 hq4 hm8
      refine v_iload_n C 2 dX7_refresh_2 rfl rfl ?_
      refine v_aload_n C 0 dX7_refresh_3 rfl rfl ?_
      obtain ⟨i10, hE10, hb10⟩ := hJ6.2.2.getO (b := 6) (by omega) rfl
      refine v_geti (v := i10 1) C 6 dX7_refresh_4 fX7_17 (by omega) hE10 rfl rfl ?_
      have hi10_1 : (k : Int) ≤ (i10 1).toInt ∧ (i10 1).toInt ≤ (k : Int) := hb10 1
      refine b_icmp_ge C 32 dX7_refresh_7 (by decide) (rfl : Int32.toInt y3 = _) (rfl : Int32.toInt (i10 1) = _) (fun c11 => ?_) (fun c11 => ?_)
      · exact v_vret C dX7_refresh_32 rfl hJ6
      · refine v_aload_n C 0 dX7_refresh_10 rfl rfl ?_
        refine v_getr C 6 dX7_refresh_11 fX7_11 (by omega) hE10 rfl rfl ?_
        refine v_iload_n C 2 dX7_refresh_14 rfl rfl ?_
        obtain ⟨fz12, hE12, hz12⟩ := hJ6.c7
        obtain ⟨b13, eb13⟩ : ∃ q : Nat, q = 98 + 9 * ((y3.toInt).toNat) := ⟨_, rfl⟩
        have hb13 : ZC k b13 := ⟨_, by omega, eb13⟩
        have hb13n := hb13.n
        refine v_aldZ (v := some (ad b13)) C 7 dX7_refresh_15 (by omega) hE12 (ti_in (rfl : Int32.toInt y3 = _) (by omega) (by omega)) (by rw [ti_cl (rfl : Int32.toInt y3 = _), eb13]; exact hz12 ((y3.toInt).toNat) (by omega)) ?_
        refine v_astore_n (lv' := [(0, .ref (ad 6)), (1, .int y2), (2, .int y3), (3, .ref (ad b13))]) C [1, 2, 3, 0] dX7_refresh_16 rfl (by decide) rfl ?_
        refine v_aload_n C 3 dX7_refresh_17 rfl rfl ?_
        refine v_ifnull C dX7_refresh_18 ?_
        refine v_aload_n C 3 dX7_refresh_21 rfl rfl ?_
        refine v_iload_n C 1 dX7_refresh_22 rfl rfl ?_
        obtain ⟨i18, hE18, hb18⟩ := hJ6.2.2.getO (b := b13) (by omega) hb13.t0
        refine v_cVv C dX7_refresh_23 lX7_24 mX6_refresh b13 (by omega) hE18 (by decide) rfl (t_X6_refresh l G ad hJ6 b13 hb13 y2) ⟨by decide, by decide⟩ rfl (Nat.le_of_ble_eq_true rfl) ⟨Nat.zero_le _, Nat.zero_le _⟩ (fun E15 hJ17 => ?_)
        obtain ⟨x19, ex19⟩ : ∃ y : Int32, y = y3 + 1 := ⟨_, rfl⟩
        have hx19 : x19.toInt = (y3.toInt + 1) := by rw [ex19]; exact ti_add (rfl : Int32.toInt y3 = _) (show (1 : Int32).toInt = 1 by decide) (by omega) (by omega)
        refine v_iinc (v := x19) (lv' := [(0, .ref (ad 6)), (1, .int y2), (2, .int x19), (3, .ref (ad b13))]) C 2 [1, 2, 0, 3] dX7_refresh_26 rfl (ex19.symm) (by decide) rfl ?_
        refine v_goto C 2 dX7_refresh_29 (by decide) ?_
        refine v_sub (lv' := [(0, .ref (ad 6)), (1, .int y2), (2, .int x19)]) [0, 1, 2] rfl ?_
        exact ih7 _ y2 x19 hJ17 (by have := hx19; omega) (by have := hx19; omega) (by have := hx19; omega)
  exact LP1 100000 _ x 0 hJ (by have := (show (0 : Int32).toInt = 0 by decide); omega) (by have := (show (0 : Int32).toInt = 0 by decide); omega) (by have := (show (0 : Int32).toInt = 0 by decide); omega)

set_option maxRecDepth 20000 in
theorem t_X4_forget (l : Launch) (G : Gl) (ad : Nat → Nat) {k : Nat} {E0 E : Nat → va_E} (hJ : J8 G ad k E0 E) : CtV l G yX4_forget cX4_forget 1 0 0 (98 + 9 * k) ad E [.ref (ad 45)] (fun E' => J8 G ad k E0 E') := by
  refine CtV.of (by decide) (Nat.le_of_ble_eq_true rfl) (fun X A C => ?_)
  refine v_sub (lv' := [(0, .ref (ad 45))]) [0] rfl ?_
  have hk5 := hJ.1
  refine v_aload_n C 0 dX4_forget_0 rfl rfl ?_
  refine v_iconst (v := 0) C dX4_forget_1 (by decide) ?_
  obtain ⟨i1, hE1, hb1⟩ := hJ.2.2.getO (b := 45) (by omega) rfl
  refine v_puti C 45 dX4_forget_2 fX4_19 (by omega) hE1 rfl rfl rfl rfl (fun E2 hE2_45 oE2 => ?_)
  obtain ⟨hJ3, hb4⟩ := hJ.2.2.setO rfl (by unfold P8; omega) hb1 (k := 5) (show (0 : Int) ≤ Int32.toInt 0 ∧ Int32.toInt 0 ≤ 1 by decide) hE2_45 oE2
  have hJ3 := hJ.with hJ3
  exact v_vret C dX4_forget_5 rfl hJ3

set_option maxRecDepth 20000 in
theorem t_X4_mark (l : Launch) (G : Gl) (ad : Nat → Nat) {k : Nat} {E0 E : Nat → va_E} (hJ : J8 G ad k E0 E) (x : Int32) : CtV l G yX4_mark cX4_mark 3 0 0 (98 + 9 * k) ad E [.ref (ad 45), .int x] (fun E' => J8 G ad k E0 E') := by
  refine CtV.of (by decide) (Nat.le_of_ble_eq_true rfl) (fun X A C => ?_)
  refine v_sub (lv' := [(0, .ref (ad 45)), (1, .int x)]) [0, 1] rfl ?_
  have hk5 := hJ.1
  refine v_iload_n C 1 dX4_mark_0 rfl rfl ?_
  refine v_aload_n C 0 dX4_mark_1 rfl rfl ?_
  obtain ⟨i1, hE1, hb1⟩ := hJ.2.2.getO (b := 45) (by omega) rfl
  refine v_geti (v := i1 3) C 45 dX4_mark_2 fX4_23 (by omega) hE1 rfl rfl ?_
  refine v_isub C dX4_mark_5 ?_
  refine v_top (fun x2 _ => ?_)
  refine v_istore_n (lv' := [(0, .ref (ad 45)), (1, .int x), (2, .int x2)]) C [1, 2, 0] dX4_mark_6 rfl (by decide) rfl ?_
  refine v_iload_n C 2 dX4_mark_7 rfl rfl ?_
  refine b_if_lt C 49 dX4_mark_8 (by decide) (rfl : Int32.toInt x2 = _) (fun c3 => ?_) (fun c3 => ?_)
  · exact v_vret C dX4_mark_49 rfl hJ
  · refine v_iload_n C 1 dX4_mark_11 rfl rfl ?_
    refine v_aload_n C 0 dX4_mark_12 rfl rfl ?_
    refine v_geti (v := i1 4) C 45 dX4_mark_13 fX4_27 (by omega) hE1 rfl rfl ?_
    refine b_icmp_gt C 49 dX4_mark_16 (by decide) (rfl : Int32.toInt x = _) (rfl : Int32.toInt (i1 4) = _) (fun c4 => ?_) (fun c4 => ?_)
    · exact v_vret C dX4_mark_49 rfl hJ
    · refine v_iload_n C 2 dX4_mark_19 rfl rfl ?_
      refine v_bipush (v := 64) C dX4_mark_20 (by decide) ?_
      refine v_idiv C dX4_mark_22 (by decide) ?_
      refine v_top (fun x5 ex5 => ?_)
      have hx5 : x5.toInt = (x2.toInt / 64) := by rw [ex5]; exact ti_div (rfl : Int32.toInt x2 = _) (show (64 : Int32).toInt = 64 by decide) (by omega) (by omega)
      refine v_aload_n C 0 dX4_mark_23 rfl rfl ?_
      refine v_getr C 45 dX4_mark_24 fX4_9 (by omega) hE1 rfl rfl ?_
      obtain ⟨f6, hE6⟩ := hJ.2.2.getL (b := 46) (by omega) rfl
      refine v_alenJ (v := 31251) C 46 dX4_mark_27 (by omega) hE6 (by decide) ?_
      refine b_icmp_ge C 49 dX4_mark_28 (by decide) hx5 (show (31251 : Int32).toInt = 31251 by decide) (fun c7 => ?_) (fun c7 => ?_)
      · exact v_vret C dX4_mark_49 rfl hJ
      · refine v_aload_n C 0 dX4_mark_31 rfl rfl ?_
        refine v_getr C 45 dX4_mark_32 fX4_9 (by omega) hE1 rfl rfl ?_
        refine v_iload_n C 2 dX4_mark_35 rfl rfl ?_
        refine v_bipush (v := 64) C dX4_mark_36 (by decide) ?_
        refine v_idiv C dX4_mark_38 (by decide) ?_
        refine v_top (fun x8 ex8 => ?_)
        have hx8 : x8.toInt = (x2.toInt / 64) := by rw [ex8]; exact ti_div (rfl : Int32.toInt x2 = _) (show (64 : Int32).toInt = 64 by decide) (by omega) (by omega)
        refine v_dup2_11 C dX4_mark_39 rfl rfl ?_
        refine v_jald (v := f6 ((x2.toInt / 64)).toNat) C 46 dX4_mark_40 (by omega) hE6 (ti_in hx8 (by omega) (by omega)) (by rw [ti_cl hx8]) ?_
        refine v_topl (fun x9 _ => ?_)
        refine v_lconst (v := 1) C dX4_mark_41 (by decide) ?_
        refine v_iload_n C 2 dX4_mark_42 rfl rfl ?_
        refine v_bipush (v := 64) C dX4_mark_43 (by decide) ?_
        refine v_irem C dX4_mark_45 (by decide) ?_
        refine v_top (fun x10 ex10 => ?_)
        have hx10 : x10.toInt = (x2.toInt % 64) := by rw [ex10]; exact ti_rem (rfl : Int32.toInt x2 = _) (show (64 : Int32).toInt = 64 by decide) (by omega) (by omega)
        refine v_lshl C dX4_mark_46 rfl ?_
        refine v_topl (fun x11 _ => ?_)
        refine v_lor C dX4_mark_47 ?_
        refine v_topl (fun x12 _ => ?_)
        refine v_jast C 46 dX4_mark_48 (by omega) hE6 (ti_in hx8 (by omega) (by omega)) (fun E13 hE13_46 oE13 => ?_)
        rw [ti_cl hx8] at hE13_46
        have hE13_45 := (oE13 45 (by decide)).trans hE1
        have hJ14 := hJ.with (hJ.2.2.setL rfl (by unfold P8; omega) hE13_46 oE13)
        exact v_vret C dX4_mark_49 rfl hJ14

set_option maxRecDepth 20000 in
theorem t_X4_listMarks (l : Launch) (G : Gl) (ad : Nat → Nat) {k : Nat} {E0 E : Nat → va_E} (hJ : J8 G ad k E0 E) (x : Int32) (hx : (-2147483648 : Int) ≤ x.toInt ∧ x.toInt ≤ 31251) : CtV l G yX4_listMarks cX4_listMarks 8 1 21 (98 + 9 * k) ad E [.ref (ad 45), .int x] (fun E' => J8 G ad k E0 E') := by
  refine CtV.of (by decide) (Nat.le_of_ble_eq_true rfl) (fun X A C => ?_)
  refine v_sub (lv' := [(0, .ref (ad 45)), (1, .int x)]) [0, 1] rfl ?_
  have hk5 := hJ.1
  refine v_aload_n C 0 dX4_listMarks_0 rfl rfl ?_
  refine v_iconst (v := 0) C dX4_listMarks_1 (by decide) ?_
  obtain ⟨i1, hE1, hb1⟩ := hJ.2.2.getO (b := 45) (by omega) rfl
  refine v_puti C 45 dX4_listMarks_2 fX4_78 (by omega) hE1 rfl rfl rfl rfl (fun E2 hE2_45 oE2 => ?_)
  obtain ⟨hJ3, hb4⟩ := hJ.2.2.setO rfl (by unfold P8; omega) hb1 (k := 2) (show (0 : Int) ≤ Int32.toInt 0 ∧ Int32.toInt 0 ≤ 26002 by decide) hE2_45 oE2
  have hJ3 := hJ.with hJ3
  refine v_iconst (v := 0) C dX4_listMarks_5 (by decide) ?_
  refine v_istore_n (lv' := [(0, .ref (ad 45)), (1, .int x), (2, .int 0)]) C [1, 2, 0] dX4_listMarks_6 rfl (by decide) rfl ?_
  have LP5 : ∀ (t : Nat) (E7 : Nat → va_E) (y6 : Int32), J8 G ad k E0 E7 → ((0 : Int) ≤ y6.toInt ∧ y6.toInt ≤ 31251) → 31252 - y6.toInt < (t : Int) → V X G A 8 (QV X G A (98 + 9 * k) ad (fun E' => J8 G ad k E0 E')) (98 + 9 * k) ad 0 0 E7 7 [(0, .ref (ad 45)), (1, .int x), (2, .int y6)] [] := by
    intro t11
    induction t11 with
    | zero => intro E7 y6 hJ8 hy6 hm10; exfalso; omega
    | succ t11 ih9 =>
      intro E7 y6 hJ8 hy6 hm10
      refine v_iload_n C 2 dX4_listMarks_7 rfl rfl ?_
      refine v_iload_n C 1 dX4_listMarks_8 rfl rfl ?_
      refine b_icmp_ge C 106 dX4_listMarks_9 (by decide) (rfl : Int32.toInt y6 = _) (rfl : Int32.toInt x = _) (fun c12 => ?_) (fun c12 => ?_)
      · exact v_vret C dX4_listMarks_106 rfl hJ8
      · refine v_aload_n C 0 dX4_listMarks_12 rfl rfl ?_
        obtain ⟨i13, hE13, hb13⟩ := hJ8.2.2.getO (b := 45) (by omega) rfl
        refine v_getr C 45 dX4_listMarks_13 fX4_9 (by omega) hE13 rfl rfl ?_
        refine v_iload_n C 2 dX4_listMarks_16 rfl rfl ?_
        obtain ⟨f14, hE14⟩ := hJ8.2.2.getL (b := 46) (by omega) rfl
        refine v_jald (v := f14 (y6.toInt).toNat) C 46 dX4_listMarks_17 (by omega) hE14 (ti_in (rfl : Int32.toInt y6 = _) (by omega) (by omega)) (by rw [ti_cl (rfl : Int32.toInt y6 = _)]) ?_
        refine v_topl (fun x15 _ => ?_)
        refine v_lstore_n (lv' := [(0, .ref (ad 45)), (1, .int x), (2, .int y6), (3, .long x15)]) C [1, 2, 3, 0] dX4_listMarks_18 rfl (by decide) rfl ?_
        refine v_iconst (v := 0) C dX4_listMarks_19 (by decide) ?_
        refine v_istore (lv' := [(0, .ref (ad 45)), (1, .int x), (2, .int y6), (3, .long x15), (5, .int 0)]) C [1, 2, 3, 4, 0] dX4_listMarks_20 (by decide) rfl ?_
        have LP16 : ∀ (t : Nat) (E19 : Nat → va_E) (y17 : Int64) (y18 : Int32), J8 G ad k E0 E19 → ((0 : Int) ≤ y18.toInt ∧ y18.toInt ≤ 64) → 65 - y18.toInt < (t : Int) → V X G A 8 (QV X G A (98 + 9 * k) ad (fun E' => J8 G ad k E0 E')) (98 + 9 * k) ad 0 0 E19 22 [(0, .ref (ad 45)), (1, .int x), (2, .int y6), (3, .long y17), (5, .int y18)] [] := by
          intro t23
          induction t23 with
          | zero => intro E19 y17 y18 hJ20 hy18 hm22; exfalso; omega
          | succ t23 ih21 =>
            intro E19 y17 y18 hJ20 hy18 hm22
            refine v_iload C 4 dX4_listMarks_22 rfl ?_
            refine v_bipush (v := 64) C dX4_listMarks_24 (by decide) ?_
            refine b_icmp_ge C 100 dX4_listMarks_26 (by decide) (rfl : Int32.toInt y18 = _) (show (64 : Int32).toInt = 64 by decide) (fun c24 => ?_) (fun c24 => ?_)
            · obtain ⟨x25, ex25⟩ : ∃ y : Int32, y = y6 + 1 := ⟨_, rfl⟩
              have hx25 : x25.toInt = (y6.toInt + 1) := by rw [ex25]; exact ti_add (rfl : Int32.toInt y6 = _) (show (1 : Int32).toInt = 1 by decide) (by omega) (by omega)
              refine v_iinc (v := x25) (lv' := [(0, .ref (ad 45)), (1, .int x), (2, .int x25), (3, .long y17), (5, .int y18)]) C 2 [1, 2, 0, 3, 4] dX4_listMarks_100 rfl (ex25.symm) (by decide) rfl ?_
              refine v_goto C 7 dX4_listMarks_103 (by decide) ?_
              refine v_sub (lv' := [(0, .ref (ad 45)), (1, .int x), (2, .int x25)]) [0, 1, 2] rfl ?_
              exact ih9 _ x25 hJ20 (by have := hx25; omega) (by have := hx25; omega)
            · refine v_lload_n C 3 dX4_listMarks_29 rfl rfl ?_
              refine v_lconst (v := 0) C dX4_listMarks_30 (by decide) ?_
              refine v_lcmp C dX4_listMarks_31 ?_
              refine v_top (fun x26 _ => ?_)
              refine b_if_eq C 100 dX4_listMarks_32 (by decide) (rfl : Int32.toInt x26 = _) (fun c27 => ?_) (fun c27 => ?_)
              · obtain ⟨x28, ex28⟩ : ∃ y : Int32, y = y6 + 1 := ⟨_, rfl⟩
                have hx28 : x28.toInt = (y6.toInt + 1) := by rw [ex28]; exact ti_add (rfl : Int32.toInt y6 = _) (show (1 : Int32).toInt = 1 by decide) (by omega) (by omega)
                refine v_iinc (v := x28) (lv' := [(0, .ref (ad 45)), (1, .int x), (2, .int x28), (3, .long y17), (5, .int y18)]) C 2 [1, 2, 0, 3, 4] dX4_listMarks_100 rfl (ex28.symm) (by decide) rfl ?_
                refine v_goto C 7 dX4_listMarks_103 (by decide) ?_
                refine v_sub (lv' := [(0, .ref (ad 45)), (1, .int x), (2, .int x28)]) [0, 1, 2] rfl ?_
                exact ih9 _ x28 hJ20 (by have := hx28; omega) (by have := hx28; omega)
              · refine v_aload_n C 0 dX4_listMarks_35 rfl rfl ?_
                obtain ⟨i29, hE29, hb29⟩ := hJ20.2.2.getO (b := 45) (by omega) rfl
                refine v_geti (v := i29 2) C 45 dX4_listMarks_36 fX4_78 (by omega) hE29 rfl rfl ?_
                have hi29_2 : (0 : Int) ≤ (i29 2).toInt ∧ (i29 2).toInt ≤ 26002 := hb29 2
                refine v_aload_n C 0 dX4_listMarks_39 rfl rfl ?_
                refine v_getr C 45 dX4_listMarks_40 fX4_15 (by omega) hE29 rfl rfl ?_
                obtain ⟨f30, hE30, hb30⟩ := hJ20.2.2.getA (b := 47) (by omega) rfl
                refine v_alenI (v := 26002) C 47 dX4_listMarks_43 (by omega) hE30 (by decide) ?_
                refine b_icmp_ge C 100 dX4_listMarks_44 (by decide) (rfl : Int32.toInt (i29 2) = _) (show (26002 : Int32).toInt = 26002 by decide) (fun c31 => ?_) (fun c31 => ?_)
                · obtain ⟨x32, ex32⟩ : ∃ y : Int32, y = y6 + 1 := ⟨_, rfl⟩
                  have hx32 : x32.toInt = (y6.toInt + 1) := by rw [ex32]; exact ti_add (rfl : Int32.toInt y6 = _) (show (1 : Int32).toInt = 1 by decide) (by omega) (by omega)
                  refine v_iinc (v := x32) (lv' := [(0, .ref (ad 45)), (1, .int x), (2, .int x32), (3, .long y17), (5, .int y18)]) C 2 [1, 2, 0, 3, 4] dX4_listMarks_100 rfl (ex32.symm) (by decide) rfl ?_
                  refine v_goto C 7 dX4_listMarks_103 (by decide) ?_
                  refine v_sub (lv' := [(0, .ref (ad 45)), (1, .int x), (2, .int x32)]) [0, 1, 2] rfl ?_
                  exact ih9 _ x32 hJ20 (by have := hx32; omega) (by have := hx32; omega)
                · refine v_lload_n C 3 dX4_listMarks_47 rfl rfl ?_
                  refine v_lload_n C 3 dX4_listMarks_48 rfl rfl ?_
                  refine v_lneg C dX4_listMarks_49 ?_
                  refine v_topl (fun x33 _ => ?_)
                  refine v_land C dX4_listMarks_50 ?_
                  refine v_topl (fun x34 _ => ?_)
                  refine v_lstore (lv' := [(0, .ref (ad 45)), (1, .int x), (2, .int y6), (3, .long y17), (5, .int y18), (6, .long x34)]) C [1, 2, 3, 4, 5, 0] dX4_listMarks_51 (by decide) rfl ?_
                  refine v_aload_n C 0 dX4_listMarks_53 rfl rfl ?_
                  refine v_getr C 45 dX4_listMarks_54 fX4_15 (by omega) hE29 rfl rfl ?_
                  refine v_aload_n C 0 dX4_listMarks_57 rfl rfl ?_
                  refine v_geti (v := i29 2) C 45 dX4_listMarks_58 fX4_78 (by omega) hE29 rfl rfl ?_
                  refine v_aload_n C 0 dX4_listMarks_61 rfl rfl ?_
                  refine v_geti (v := i29 3) C 45 dX4_listMarks_62 fX4_23 (by omega) hE29 rfl rfl ?_
                  refine v_iload_n C 2 dX4_listMarks_65 rfl rfl ?_
                  refine v_bipush (v := 64) C dX4_listMarks_66 (by decide) ?_
                  refine v_imul C dX4_listMarks_68 ?_
                  refine v_top (fun x35 ex35 => ?_)
                  have hx35 : x35.toInt = (y6.toInt * 64) := by rw [ex35]; exact ti_mul (rfl : Int32.toInt y6 = _) (show (64 : Int32).toInt = 64 by decide) (by omega) (by omega)
                  refine v_iadd C dX4_listMarks_69 ?_
                  refine v_top (fun x36 _ => ?_)
                  refine v_lload C 5 dX4_listMarks_70 rfl ?_
                  refine v_lconst (v := 1) C dX4_listMarks_72 (by decide) ?_
                  refine v_lsub C dX4_listMarks_73 ?_
                  refine v_topl (fun x37 _ => ?_)
                  refine v_cSp C dX4_listMarks_74 lX4_81 mJ13_bitCount_95d88 (c_bitCount l G _ ad _ x37) ⟨by decide, by decide⟩ rfl (Nat.le_of_ble_eq_true rfl) ⟨Nat.zero_le _, Nat.zero_le _⟩ (fun r38 hp39 => ?_)
                  refine v_iadd C dX4_listMarks_77 ?_
                  refine v_top (fun x40 _ => ?_)
                  refine v_ast C 47 dX4_listMarks_78 (by omega) hE30 (ti_in (rfl : Int32.toInt (i29 2) = _) (by omega) (by omega)) (fun E41 hE41_47 oE41 => ?_)
                  rw [ti_cl (rfl : Int32.toInt (i29 2) = _)] at hE41_47
                  have hE41_45 := (oE41 45 (by decide)).trans hE29
                  have hJ42 := hJ20.with (hJ20.2.2.setA rfl (by unfold P8; omega) hb30 (ti_any x40) hE41_47 oE41)
                  refine v_aload_n C 0 dX4_listMarks_79 rfl rfl ?_
                  refine v_dup C dX4_listMarks_80 rfl ?_
                  refine v_geti (v := i29 2) C 45 dX4_listMarks_81 fX4_78 (by omega) hE41_45 rfl rfl ?_
                  refine v_iconst (v := 1) C dX4_listMarks_84 (by decide) ?_
                  refine v_iadd C dX4_listMarks_85 ?_
                  refine v_top (fun x43 ex43 => ?_)
                  have hx43 : x43.toInt = ((i29 2).toInt + 1) := by rw [ex43]; exact ti_add (rfl : Int32.toInt (i29 2) = _) (show (1 : Int32).toInt = 1 by decide) (by omega) (by omega)
                  refine v_puti C 45 dX4_listMarks_86 fX4_78 (by omega) hE41_45 rfl rfl rfl rfl (fun E44 hE44_45 oE44 => ?_)
                  obtain ⟨hJ45, hb46⟩ := hJ42.2.2.setO rfl (by unfold P8; omega) hb29 (k := 2) (show (0 : Int) ≤ Int32.toInt x43 ∧ Int32.toInt x43 ≤ 26002 by have := hx43; omega) hE44_45 oE44
                  have hJ45 := hJ42.with hJ45
                  refine v_lload_n C 3 dX4_listMarks_89 rfl rfl ?_
                  refine v_lload C 5 dX4_listMarks_90 rfl ?_
                  refine v_lxor C dX4_listMarks_92 ?_
                  refine v_topl (fun x47 _ => ?_)
                  refine v_lstore_n (lv' := [(0, .ref (ad 45)), (1, .int x), (2, .int y6), (3, .long x47), (5, .int y18), (6, .long x34)]) C [1, 2, 3, 0, 4, 5] dX4_listMarks_93 rfl (by decide) rfl ?_
                  obtain ⟨x48, ex48⟩ : ∃ y : Int32, y = y18 + 1 := ⟨_, rfl⟩
                  have hx48 : x48.toInt = (y18.toInt + 1) := by rw [ex48]; exact ti_add (rfl : Int32.toInt y18 = _) (show (1 : Int32).toInt = 1 by decide) (by omega) (by omega)
                  refine v_iinc (v := x48) (lv' := [(0, .ref (ad 45)), (1, .int x), (2, .int y6), (3, .long x47), (5, .int x48), (6, .long x34)]) C 4 [1, 2, 3, 4, 0, 5] dX4_listMarks_94 rfl (ex48.symm) (by decide) rfl ?_
                  refine v_goto C 22 dX4_listMarks_97 (by decide) ?_
                  refine v_sub (lv' := [(0, .ref (ad 45)), (1, .int x), (2, .int y6), (3, .long x47), (5, .int x48)]) [0, 1, 2, 3, 4] rfl ?_
                  exact ih21 _ x47 x48 hJ45 (by have := hx48; omega) (by have := hx48; omega)
        exact LP16 100000 _ x15 0 hJ8 (by have := (show (0 : Int32).toInt = 0 by decide); omega) (by have := (show (0 : Int32).toInt = 0 by decide); omega)
  exact LP5 100000 _ 0 hJ3 (by have := (show (0 : Int32).toInt = 0 by decide); omega) (by have := (show (0 : Int32).toInt = 0 by decide); omega)

set_option maxRecDepth 20000 in
theorem t_X4_markChanges (l : Launch) (G : Gl) (ad : Nat → Nat) {k : Nat} {E0 E : Nat → va_E} (hJ : J8 G ad k E0 E) (b : Nat) (hb : ZC k b) : CtV l G yX4_markChanges cX4_markChanges 3 1 23 (98 + 9 * k) ad E [.ref (ad 45), .ref (ad b)] (fun E' => J8 G ad k E0 E') := by
  refine CtV.of (by decide) (Nat.le_of_ble_eq_true rfl) (fun X A C => ?_)
  refine v_sub (lv' := [(0, .ref (ad 45)), (1, .ref (ad b))]) [0, 1] rfl ?_
  have hk5 := hJ.1
  have hbn := hb.n
  refine v_aload_n C 1 dX4_markChanges_0 rfl rfl ?_
  refine v_aload_n C 0 dX4_markChanges_1 rfl rfl ?_
  obtain ⟨i1, hE1, hb1⟩ := hJ.2.2.getO (b := 45) (by omega) rfl
  refine v_geti (v := i1 3) C 45 dX4_markChanges_2 fX4_23 (by omega) hE1 rfl rfl ?_
  refine v_iconst (v := 1) C dX4_markChanges_5 (by decide) ?_
  refine v_isub C dX4_markChanges_6 ?_
  refine v_top (fun x2 _ => ?_)
  obtain ⟨i5, hE5, hb5⟩ := hJ.2.2.getO (b := b) (by omega) hb.t0
  refine v_cVp C dX4_markChanges_7 lX4_60 mX6_stretchAt b (by omega) hE5 (by decide) rfl (t_X6_stretchAt l G ad hJ b hb x2) ⟨by decide, by decide⟩ rfl (Nat.le_of_ble_eq_true rfl) ⟨Nat.zero_le _, Nat.zero_le _⟩ (fun r3 hp4 => ?_)
  refine v_iconst (v := 1) C dX4_markChanges_10 (by decide) ?_
  refine v_iadd C dX4_markChanges_11 ?_
  refine v_top (fun x6 ex6 => ?_)
  have hx6 : x6.toInt = (r3.toInt + 1) := by rw [ex6]; exact ti_add (rfl : Int32.toInt r3 = _) (show (1 : Int32).toInt = 1 by decide) (by omega) (by omega)
  refine v_istore_n (lv' := [(0, .ref (ad 45)), (1, .ref (ad b)), (2, .int x6)]) C [1, 2, 0] dX4_markChanges_12 rfl (by decide) rfl ?_
  have LP7 : ∀ (t : Nat) (E9 : Nat → va_E) (y8 : Int32), J8 G ad k E0 E9 → ((1 : Int) ≤ y8.toInt ∧ y8.toInt ≤ 801) → 802 - y8.toInt < (t : Int) → V X G A 3 (QV X G A (98 + 9 * k) ad (fun E' => J8 G ad k E0 E')) (98 + 9 * k) ad 0 0 E9 13 [(0, .ref (ad 45)), (1, .ref (ad b)), (2, .int y8)] [] := by
    intro t13
    induction t13 with
    | zero => intro E9 y8 hJ10 hy8 hm12; exfalso; omega
    | succ t13 ih11 =>
      intro E9 y8 hJ10 hy8 hm12
      refine v_iload_n C 2 dX4_markChanges_13 rfl rfl ?_
      refine v_aload_n C 1 dX4_markChanges_14 rfl rfl ?_
      obtain ⟨i14, hE14, hb14⟩ := hJ10.2.2.getO (b := b) (by omega) hb.t0
      refine v_geti (v := i14 10) C b dX4_markChanges_15 fX4_66 (by omega) hE14 rfl rfl ?_
      have hi14_10 : (0 : Int) ≤ (i14 10).toInt ∧ (i14 10).toInt ≤ 800 := hb14 10
      refine b_icmp_gt C 74 dX4_markChanges_18 (by decide) (rfl : Int32.toInt y8 = _) (rfl : Int32.toInt (i14 10) = _) (fun c15 => ?_) (fun c15 => ?_)
      · exact v_vret C dX4_markChanges_74 rfl hJ10
      · refine v_aload_n C 1 dX4_markChanges_21 rfl rfl ?_
        refine v_getr C b dX4_markChanges_22 fX4_69 (by omega) hE14 rfl rfl ?_
        refine v_iload_n C 2 dX4_markChanges_25 rfl rfl ?_
        obtain ⟨f16, hE16, hb16⟩ := hJ10.2.2.getA (b := (b + 6)) (by omega) hb.t6
        refine v_ald (v := f16 (y8.toInt).toNat) C (b + 6) dX4_markChanges_26 (by omega) hE16 (ti_in (rfl : Int32.toInt y8 = _) (by omega) (by omega)) (by rw [ti_cl (rfl : Int32.toInt y8 = _)]) ?_
        refine v_top (fun x17 _ => ?_)
        refine v_aload_n C 0 dX4_markChanges_27 rfl rfl ?_
        obtain ⟨i18, hE18, hb18⟩ := hJ10.2.2.getO (b := 45) (by omega) rfl
        refine v_geti (v := i18 4) C 45 dX4_markChanges_28 fX4_27 (by omega) hE18 rfl rfl ?_
        refine b_icmp_gt C 74 dX4_markChanges_31 (by decide) (rfl : Int32.toInt x17 = _) (rfl : Int32.toInt (i18 4) = _) (fun c19 => ?_) (fun c19 => ?_)
        · exact v_vret C dX4_markChanges_74 rfl hJ10
        · refine v_aload_n C 0 dX4_markChanges_34 rfl rfl ?_
          refine v_aload_n C 1 dX4_markChanges_35 rfl rfl ?_
          refine v_getr C b dX4_markChanges_36 fX4_69 (by omega) hE14 rfl rfl ?_
          refine v_iload_n C 2 dX4_markChanges_39 rfl rfl ?_
          refine v_ald (v := f16 (y8.toInt).toNat) C (b + 6) dX4_markChanges_40 (by omega) hE16 (ti_in (rfl : Int32.toInt y8 = _) (by omega) (by omega)) (by rw [ti_cl (rfl : Int32.toInt y8 = _)]) ?_
          refine v_top (fun x20 _ => ?_)
          refine v_iconst (v := 1) C dX4_markChanges_41 (by decide) ?_
          refine v_isub C dX4_markChanges_42 ?_
          refine v_top (fun x21 _ => ?_)
          refine v_cVv C dX4_markChanges_43 lX4_36 mX4_mark 45 (by omega) hE18 (by decide) rfl (t_X4_mark l G ad hJ10 x21) ⟨by decide, by decide⟩ rfl (Nat.le_of_ble_eq_true rfl) ⟨Nat.zero_le _, Nat.zero_le _⟩ (fun E23 hJ25 => ?_)
          refine v_aload_n C 0 dX4_markChanges_46 rfl rfl ?_
          refine v_aload_n C 1 dX4_markChanges_47 rfl rfl ?_
          obtain ⟨i26, hE26, hb26⟩ := hJ25.2.2.getO (b := b) (by omega) hb.t0
          refine v_getr C b dX4_markChanges_48 fX4_69 (by omega) hE26 rfl rfl ?_
          refine v_iload_n C 2 dX4_markChanges_51 rfl rfl ?_
          obtain ⟨f27, hE27, hb27⟩ := hJ25.2.2.getA (b := (b + 6)) (by omega) hb.t6
          refine v_ald (v := f27 (y8.toInt).toNat) C (b + 6) dX4_markChanges_52 (by omega) hE27 (ti_in (rfl : Int32.toInt y8 = _) (by omega) (by omega)) (by rw [ti_cl (rfl : Int32.toInt y8 = _)]) ?_
          refine v_top (fun x28 _ => ?_)
          obtain ⟨i33, hE33, hb33⟩ := hJ25.2.2.getO (b := 45) (by omega) rfl
          refine v_cVv C dX4_markChanges_53 lX4_36 mX4_mark 45 (by omega) hE33 (by decide) rfl (t_X4_mark l G ad hJ25 x28) ⟨by decide, by decide⟩ rfl (Nat.le_of_ble_eq_true rfl) ⟨Nat.zero_le _, Nat.zero_le _⟩ (fun E30 hJ32 => ?_)
          refine v_aload_n C 0 dX4_markChanges_56 rfl rfl ?_
          refine v_aload_n C 1 dX4_markChanges_57 rfl rfl ?_
          obtain ⟨i34, hE34, hb34⟩ := hJ32.2.2.getO (b := b) (by omega) hb.t0
          refine v_getr C b dX4_markChanges_58 fX4_69 (by omega) hE34 rfl rfl ?_
          refine v_iload_n C 2 dX4_markChanges_61 rfl rfl ?_
          obtain ⟨f35, hE35, hb35⟩ := hJ32.2.2.getA (b := (b + 6)) (by omega) hb.t6
          refine v_ald (v := f35 (y8.toInt).toNat) C (b + 6) dX4_markChanges_62 (by omega) hE35 (ti_in (rfl : Int32.toInt y8 = _) (by omega) (by omega)) (by rw [ti_cl (rfl : Int32.toInt y8 = _)]) ?_
          refine v_top (fun x36 _ => ?_)
          refine v_iconst (v := 1) C dX4_markChanges_63 (by decide) ?_
          refine v_iadd C dX4_markChanges_64 ?_
          refine v_top (fun x37 _ => ?_)
          obtain ⟨i42, hE42, hb42⟩ := hJ32.2.2.getO (b := 45) (by omega) rfl
          refine v_cVv C dX4_markChanges_65 lX4_36 mX4_mark 45 (by omega) hE42 (by decide) rfl (t_X4_mark l G ad hJ32 x37) ⟨by decide, by decide⟩ rfl (Nat.le_of_ble_eq_true rfl) ⟨Nat.zero_le _, Nat.zero_le _⟩ (fun E39 hJ41 => ?_)
          obtain ⟨x43, ex43⟩ : ∃ y : Int32, y = y8 + 1 := ⟨_, rfl⟩
          have hx43 : x43.toInt = (y8.toInt + 1) := by rw [ex43]; exact ti_add (rfl : Int32.toInt y8 = _) (show (1 : Int32).toInt = 1 by decide) (by omega) (by omega)
          refine v_iinc (v := x43) (lv' := [(0, .ref (ad 45)), (1, .ref (ad b)), (2, .int x43)]) C 2 [1, 2, 0] dX4_markChanges_68 rfl (ex43.symm) (by decide) rfl ?_
          refine v_goto C 13 dX4_markChanges_71 (by decide) ?_
          exact ih11 _ x43 hJ41 (by have := hx43; omega) (by have := hx43; omega)
  exact LP7 100000 _ x6 hJ (by have := hx6; omega) (by have := hx6; omega)

set_option maxRecDepth 20000 in
theorem t_X4_markDays (l : Launch) (G : Gl) (ad : Nat → Nat) {k : Nat} {E0 E : Nat → va_E} (hJ : J8 G ad k E0 E) (b : Nat) (hb : ZC k b) (x : Int32) : CtV l G yX4_markDays cX4_markDays 9 2 47 (98 + 9 * k) ad E [.ref (ad 45), .ref (ad b), .int x] (fun E' => J8 G ad k E0 E') := by
  refine CtV.of (by decide) (Nat.le_of_ble_eq_true rfl) (fun X A C => ?_)
  refine v_sub (lv' := [(0, .ref (ad 45)), (1, .ref (ad b)), (2, .int x)]) [0, 1, 2] rfl ?_
  have hk5 := hJ.1
  have hbn := hb.n
  refine v_iconst (v := 0) C dX4_markDays_0 (by decide) ?_
  refine v_aload_n C 0 dX4_markDays_1 rfl rfl ?_
  obtain ⟨i1, hE1, hb1⟩ := hJ.2.2.getO (b := 45) (by omega) rfl
  refine v_geti (v := i1 3) C 45 dX4_markDays_2 fX4_23 (by omega) hE1 rfl rfl ?_
  refine v_sipush (v := 720) C dX4_markDays_5 (by decide) ?_
  refine v_isub C dX4_markDays_8 ?_
  refine v_top (fun x2 _ => ?_)
  refine v_sipush (v := 1440) C dX4_markDays_9 (by decide) ?_
  refine v_idiv C dX4_markDays_12 (by decide) ?_
  refine v_top (fun x3 ex3 => ?_)
  have hx3 : (-1491308 : Int) ≤ x3.toInt ∧ x3.toInt ≤ 1491308 := by rw [ex3]; exact ti_tdb (show (1440 : Int32).toInt = 1440 by decide) (by decide)
  refine v_iconst (v := 1) C dX4_markDays_13 (by decide) ?_
  refine v_isub C dX4_markDays_14 ?_
  refine v_top (fun x4 ex4 => ?_)
  have hx4 : x4.toInt = (x3.toInt - 1) := by rw [ex4]; exact ti_sub (rfl : Int32.toInt x3 = _) (show (1 : Int32).toInt = 1 by decide) (by omega) (by omega)
  refine v_mmax C dX4_markDays_15 lX4_72 mJ9_max_7cf53.2.2.1 mJ9_max_7cf53.2.1 mJ9_max_7cf53.1 ⟨by decide, Nat.le_of_ble_eq_true rfl⟩ ⟨Nat.zero_le _, Nat.zero_le _⟩ ?_
  refine v_top (fun x5 ex5 => ?_)
  have hx5 : 0 ≤ x5.toInt ∧ (x3.toInt - 1) ≤ x5.toInt ∧ (x5.toInt = 0 ∨ x5.toInt = (x3.toInt - 1)) := by rw [ex5]; exact mmax_b (show (0 : Int32).toInt = 0 by decide) hx4
  refine v_istore_n (lv' := [(0, .ref (ad 45)), (1, .ref (ad b)), (2, .int x), (3, .int x5)]) C [1, 2, 3, 0] dX4_markDays_18 rfl (by decide) rfl ?_
  refine v_iload_n C 2 dX4_markDays_19 rfl rfl ?_
  refine v_iconst (v := 1) C dX4_markDays_20 (by decide) ?_
  refine v_isub C dX4_markDays_21 ?_
  refine v_top (fun x6 _ => ?_)
  refine v_aload_n C 0 dX4_markDays_22 rfl rfl ?_
  refine v_geti (v := i1 4) C 45 dX4_markDays_23 fX4_27 (by omega) hE1 rfl rfl ?_
  refine v_sipush (v := 720) C dX4_markDays_26 (by decide) ?_
  refine v_iadd C dX4_markDays_29 ?_
  refine v_top (fun x7 _ => ?_)
  refine v_sipush (v := 1440) C dX4_markDays_30 (by decide) ?_
  refine v_idiv C dX4_markDays_33 (by decide) ?_
  refine v_top (fun x8 ex8 => ?_)
  have hx8 : (-1491308 : Int) ≤ x8.toInt ∧ x8.toInt ≤ 1491308 := by rw [ex8]; exact ti_tdb (show (1440 : Int32).toInt = 1440 by decide) (by decide)
  refine v_mmin C dX4_markDays_34 lX4_30 mJ9_min_7cf53.2.2.1 mJ9_min_7cf53.2.1 mJ9_min_7cf53.1 ⟨by decide, Nat.le_of_ble_eq_true rfl⟩ ⟨Nat.zero_le _, Nat.zero_le _⟩ ?_
  refine v_top (fun x9 ex9 => ?_)
  have hx9 : x9.toInt ≤ x6.toInt ∧ x9.toInt ≤ x8.toInt ∧ (x9.toInt = x6.toInt ∨ x9.toInt = x8.toInt) := by rw [ex9]; exact mmin_b (rfl : Int32.toInt x6 = _) (rfl : Int32.toInt x8 = _)
  refine v_istore (lv' := [(0, .ref (ad 45)), (1, .ref (ad b)), (2, .int x), (3, .int x5), (4, .int x9)]) C [1, 2, 3, 4, 0] dX4_markDays_37 (by decide) rfl ?_
  refine v_aload_n C 1 dX4_markDays_39 rfl rfl ?_
  refine v_iload_n C 3 dX4_markDays_40 rfl rfl ?_
  refine v_sipush (v := 1440) C dX4_markDays_41 (by decide) ?_
  refine v_imul C dX4_markDays_44 ?_
  refine v_top (fun x10 ex10 => ?_)
  have hx10 : x10.toInt = (x5.toInt * 1440) := by rw [ex10]; exact ti_mul (rfl : Int32.toInt x5 = _) (show (1440 : Int32).toInt = 1440 by decide) (by omega) (by omega)
  refine v_sipush (v := 720) C dX4_markDays_45 (by decide) ?_
  refine v_isub C dX4_markDays_48 ?_
  refine v_top (fun x11 ex11 => ?_)
  have hx11 : x11.toInt = ((x5.toInt * 1440) - 720) := by rw [ex11]; exact ti_sub hx10 (show (720 : Int32).toInt = 720 by decide) (by omega) (by omega)
  obtain ⟨i14, hE14, hb14⟩ := hJ.2.2.getO (b := b) (by omega) hb.t0
  refine v_cVp C dX4_markDays_49 lX4_60 mX6_stretchAt b (by omega) hE14 (by decide) rfl (t_X6_stretchAt l G ad hJ b hb x11) ⟨by decide, by decide⟩ rfl (Nat.le_of_ble_eq_true rfl) ⟨Nat.zero_le _, Nat.zero_le _⟩ (fun r12 hp13 => ?_)
  refine v_istore (lv' := [(0, .ref (ad 45)), (1, .ref (ad b)), (2, .int x), (3, .int x5), (4, .int x9), (5, .int r12)]) C [1, 2, 3, 4, 5, 0] dX4_markDays_52 (by decide) rfl ?_
  refine v_iload_n C 3 dX4_markDays_54 rfl rfl ?_
  refine v_istore (lv' := [(0, .ref (ad 45)), (1, .ref (ad b)), (2, .int x), (3, .int x5), (4, .int x9), (5, .int r12), (6, .int x5)]) C [1, 2, 3, 4, 5, 6, 0] dX4_markDays_55 (by decide) rfl ?_
  have LP15 : ∀ (t : Nat) (E18 : Nat → va_E) (y16 : Int32) (y17 : Int32), J8 G ad k E0 E18 → ((0 : Int) ≤ y16.toInt ∧ y16.toInt ≤ 800) → ((0 : Int) ≤ y17.toInt ∧ y17.toInt ≤ 1600000) → 1600001 - y17.toInt < (t : Int) → V X G A 9 (QV X G A (98 + 9 * k) ad (fun E' => J8 G ad k E0 E')) (98 + 9 * k) ad 0 0 E18 57 [(0, .ref (ad 45)), (1, .ref (ad b)), (4, .int x9), (5, .int y16), (6, .int y17)] [] := by
    intro t22
    induction t22 with
    | zero => intro E18 y16 y17 hJ19 hy16 hy17 hm21; exfalso; omega
    | succ t22 ih20 =>
      intro E18 y16 y17 hJ19 hy16 hy17 hm21
      refine v_iload C 4 dX4_markDays_57 rfl ?_
      refine v_iload C 2 dX4_markDays_59 rfl ?_
      refine b_icmp_gt C 141 dX4_markDays_61 (by decide) (rfl : Int32.toInt y17 = _) (rfl : Int32.toInt x9 = _) (fun c23 => ?_) (fun c23 => ?_)
      · exact v_vret C dX4_markDays_141 rfl hJ19
      · refine v_iload C 4 dX4_markDays_64 rfl ?_
        refine v_sipush (v := 1440) C dX4_markDays_66 (by decide) ?_
        refine v_imul C dX4_markDays_69 ?_
        refine v_top (fun x24 ex24 => ?_)
        have hx24 : x24.toInt = (y17.toInt * 1440) := by rw [ex24]; exact ti_mul (rfl : Int32.toInt y17 = _) (show (1440 : Int32).toInt = 1440 by decide) (by omega) (by omega)
        refine v_sipush (v := 720) C dX4_markDays_70 (by decide) ?_
        refine v_isub C dX4_markDays_73 ?_
        refine v_top (fun x25 ex25 => ?_)
        have hx25 : x25.toInt = ((y17.toInt * 1440) - 720) := by rw [ex25]; exact ti_sub hx24 (show (720 : Int32).toInt = 720 by decide) (by omega) (by omega)
        refine v_istore (lv' := [(0, .ref (ad 45)), (1, .ref (ad b)), (4, .int x9), (5, .int y16), (6, .int y17), (7, .int x25)]) C [1, 2, 3, 4, 5, 0] dX4_markDays_74 (by decide) rfl ?_
        have LP26 : ∀ (t : Nat) (E28 : Nat → va_E) (y27 : Int32), J8 G ad k E0 E28 → ((0 : Int) ≤ y27.toInt ∧ y27.toInt ≤ 800) → 801 - y27.toInt < (t : Int) → V X G A 9 (QV X G A (98 + 9 * k) ad (fun E' => J8 G ad k E0 E')) (98 + 9 * k) ad 0 0 E28 76 [(0, .ref (ad 45)), (1, .ref (ad b)), (4, .int x9), (5, .int y27), (6, .int y17), (7, .int x25)] [] := by
          intro t32
          induction t32 with
          | zero => intro E28 y27 hJ29 hy27 hm31; exfalso; omega
          | succ t32 ih30 =>
            intro E28 y27 hJ29 hy27 hm31
            refine v_iload C 3 dX4_markDays_76 rfl ?_
            refine v_aload_n C 1 dX4_markDays_78 rfl rfl ?_
            obtain ⟨i33, hE33, hb33⟩ := hJ29.2.2.getO (b := b) (by omega) hb.t0
            refine v_geti (v := i33 10) C b dX4_markDays_79 fX4_66 (by omega) hE33 rfl rfl ?_
            have hi33_10 : (0 : Int) ≤ (i33 10).toInt ∧ (i33 10).toInt ≤ 800 := hb33 10
            refine b_icmp_ge C 105 dX4_markDays_82 (by decide) (rfl : Int32.toInt y27 = _) (rfl : Int32.toInt (i33 10) = _) (fun c34 => ?_) (fun c34 => ?_)
            · refine v_aload_n C 1 dX4_markDays_105 rfl rfl ?_
              refine v_iload C 4 dX4_markDays_106 rfl ?_
              refine v_iload C 3 dX4_markDays_108 rfl ?_
              refine v_cVp C dX4_markDays_110 lX4_75 mX6_firstOfDay b (by omega) hE33 (by decide) rfl (t_X6_firstOfDay l G ad hJ29 b hb y17 y27 (show (0 : Int) ≤ Int32.toInt y27 ∧ Int32.toInt y27 ≤ 800 by omega)) ⟨by decide, by decide⟩ rfl (Nat.le_of_ble_eq_true rfl) ⟨Nat.zero_le _, Nat.zero_le _⟩ (fun r35 hp36 => ?_)
              refine v_istore (lv' := [(0, .ref (ad 45)), (1, .ref (ad b)), (4, .int x9), (5, .int y27), (6, .int y17), (7, .int x25), (8, .int r35)]) C [1, 2, 3, 4, 5, 6, 0] dX4_markDays_113 (by decide) rfl ?_
              refine v_iload C 6 dX4_markDays_115 rfl ?_
              refine v_iconst (v := (-1)) C dX4_markDays_117 (by decide) ?_
              refine b_icmp_eq C 135 dX4_markDays_118 (by decide) (rfl : Int32.toInt r35 = _) (show ((-1) : Int32).toInt = (-1) by decide) (fun c37 => ?_) (fun c37 => ?_)
              · obtain ⟨x38, ex38⟩ : ∃ y : Int32, y = y17 + 1 := ⟨_, rfl⟩
                have hx38 : x38.toInt = (y17.toInt + 1) := by rw [ex38]; exact ti_add (rfl : Int32.toInt y17 = _) (show (1 : Int32).toInt = 1 by decide) (by omega) (by omega)
                refine v_iinc (v := x38) (lv' := [(0, .ref (ad 45)), (1, .ref (ad b)), (4, .int x9), (5, .int y27), (6, .int x38), (7, .int x25), (8, .int r35)]) C 4 [1, 2, 3, 4, 0, 5, 6] dX4_markDays_135 rfl (ex38.symm) (by decide) rfl ?_
                refine v_goto C 57 dX4_markDays_138 (by decide) ?_
                refine v_sub (lv' := [(0, .ref (ad 45)), (1, .ref (ad b)), (4, .int x9), (5, .int y27), (6, .int x38)]) [0, 1, 2, 3, 4] rfl ?_
                exact ih20 _ y27 x38 hJ29 (by have := hx38; omega) (by have := hx38; omega) (by have := hx38; omega)
              · refine v_aload_n C 0 dX4_markDays_121 rfl rfl ?_
                refine v_iload C 6 dX4_markDays_122 rfl ?_
                refine v_iconst (v := 1) C dX4_markDays_124 (by decide) ?_
                refine v_isub C dX4_markDays_125 ?_
                refine v_top (fun x39 _ => ?_)
                obtain ⟨i44, hE44, hb44⟩ := hJ29.2.2.getO (b := 45) (by omega) rfl
                refine v_cVv C dX4_markDays_126 lX4_36 mX4_mark 45 (by omega) hE44 (by decide) rfl (t_X4_mark l G ad hJ29 x39) ⟨by decide, by decide⟩ rfl (Nat.le_of_ble_eq_true rfl) ⟨Nat.zero_le _, Nat.zero_le _⟩ (fun E41 hJ43 => ?_)
                refine v_aload_n C 0 dX4_markDays_129 rfl rfl ?_
                refine v_iload C 6 dX4_markDays_130 rfl ?_
                obtain ⟨i49, hE49, hb49⟩ := hJ43.2.2.getO (b := 45) (by omega) rfl
                refine v_cVv C dX4_markDays_132 lX4_36 mX4_mark 45 (by omega) hE49 (by decide) rfl (t_X4_mark l G ad hJ43 r35) ⟨by decide, by decide⟩ rfl (Nat.le_of_ble_eq_true rfl) ⟨Nat.zero_le _, Nat.zero_le _⟩ (fun E46 hJ48 => ?_)
                obtain ⟨x50, ex50⟩ : ∃ y : Int32, y = y17 + 1 := ⟨_, rfl⟩
                have hx50 : x50.toInt = (y17.toInt + 1) := by rw [ex50]; exact ti_add (rfl : Int32.toInt y17 = _) (show (1 : Int32).toInt = 1 by decide) (by omega) (by omega)
                refine v_iinc (v := x50) (lv' := [(0, .ref (ad 45)), (1, .ref (ad b)), (4, .int x9), (5, .int y27), (6, .int x50), (7, .int x25), (8, .int r35)]) C 4 [1, 2, 3, 4, 0, 5, 6] dX4_markDays_135 rfl (ex50.symm) (by decide) rfl ?_
                refine v_goto C 57 dX4_markDays_138 (by decide) ?_
                refine v_sub (lv' := [(0, .ref (ad 45)), (1, .ref (ad b)), (4, .int x9), (5, .int y27), (6, .int x50)]) [0, 1, 2, 3, 4] rfl ?_
                exact ih20 _ y27 x50 hJ48 (by have := hx50; omega) (by have := hx50; omega) (by have := hx50; omega)
            · refine v_aload_n C 1 dX4_markDays_85 rfl rfl ?_
              refine v_getr C b dX4_markDays_86 fX4_69 (by omega) hE33 rfl rfl ?_
              refine v_iload C 3 dX4_markDays_89 rfl ?_
              refine v_iconst (v := 1) C dX4_markDays_91 (by decide) ?_
              refine v_iadd C dX4_markDays_92 ?_
              refine v_top (fun x51 ex51 => ?_)
              have hx51 : x51.toInt = (y27.toInt + 1) := by rw [ex51]; exact ti_add (rfl : Int32.toInt y27 = _) (show (1 : Int32).toInt = 1 by decide) (by omega) (by omega)
              obtain ⟨f52, hE52, hb52⟩ := hJ29.2.2.getA (b := (b + 6)) (by omega) hb.t6
              refine v_ald (v := f52 ((y27.toInt + 1)).toNat) C (b + 6) dX4_markDays_93 (by omega) hE52 (ti_in hx51 (by omega) (by omega)) (by rw [ti_cl hx51]) ?_
              refine v_top (fun x53 _ => ?_)
              refine v_iload C 5 dX4_markDays_94 rfl ?_
              refine b_icmp_gt C 105 dX4_markDays_96 (by decide) (rfl : Int32.toInt x53 = _) hx25 (fun c54 => ?_) (fun c54 => ?_)
              · refine v_aload_n C 1 dX4_markDays_105 rfl rfl ?_
                refine v_iload C 4 dX4_markDays_106 rfl ?_
                refine v_iload C 3 dX4_markDays_108 rfl ?_
                refine v_cVp C dX4_markDays_110 lX4_75 mX6_firstOfDay b (by omega) hE33 (by decide) rfl (t_X6_firstOfDay l G ad hJ29 b hb y17 y27 (show (0 : Int) ≤ Int32.toInt y27 ∧ Int32.toInt y27 ≤ 800 by omega)) ⟨by decide, by decide⟩ rfl (Nat.le_of_ble_eq_true rfl) ⟨Nat.zero_le _, Nat.zero_le _⟩ (fun r55 hp56 => ?_)
                refine v_istore (lv' := [(0, .ref (ad 45)), (1, .ref (ad b)), (4, .int x9), (5, .int y27), (6, .int y17), (7, .int x25), (8, .int r55)]) C [1, 2, 3, 4, 5, 6, 0] dX4_markDays_113 (by decide) rfl ?_
                refine v_iload C 6 dX4_markDays_115 rfl ?_
                refine v_iconst (v := (-1)) C dX4_markDays_117 (by decide) ?_
                refine b_icmp_eq C 135 dX4_markDays_118 (by decide) (rfl : Int32.toInt r55 = _) (show ((-1) : Int32).toInt = (-1) by decide) (fun c57 => ?_) (fun c57 => ?_)
                · obtain ⟨x58, ex58⟩ : ∃ y : Int32, y = y17 + 1 := ⟨_, rfl⟩
                  have hx58 : x58.toInt = (y17.toInt + 1) := by rw [ex58]; exact ti_add (rfl : Int32.toInt y17 = _) (show (1 : Int32).toInt = 1 by decide) (by omega) (by omega)
                  refine v_iinc (v := x58) (lv' := [(0, .ref (ad 45)), (1, .ref (ad b)), (4, .int x9), (5, .int y27), (6, .int x58), (7, .int x25), (8, .int r55)]) C 4 [1, 2, 3, 4, 0, 5, 6] dX4_markDays_135 rfl (ex58.symm) (by decide) rfl ?_
                  refine v_goto C 57 dX4_markDays_138 (by decide) ?_
                  refine v_sub (lv' := [(0, .ref (ad 45)), (1, .ref (ad b)), (4, .int x9), (5, .int y27), (6, .int x58)]) [0, 1, 2, 3, 4] rfl ?_
                  exact ih20 _ y27 x58 hJ29 (by have := hx58; omega) (by have := hx58; omega) (by have := hx58; omega)
                · refine v_aload_n C 0 dX4_markDays_121 rfl rfl ?_
                  refine v_iload C 6 dX4_markDays_122 rfl ?_
                  refine v_iconst (v := 1) C dX4_markDays_124 (by decide) ?_
                  refine v_isub C dX4_markDays_125 ?_
                  refine v_top (fun x59 _ => ?_)
                  obtain ⟨i64, hE64, hb64⟩ := hJ29.2.2.getO (b := 45) (by omega) rfl
                  refine v_cVv C dX4_markDays_126 lX4_36 mX4_mark 45 (by omega) hE64 (by decide) rfl (t_X4_mark l G ad hJ29 x59) ⟨by decide, by decide⟩ rfl (Nat.le_of_ble_eq_true rfl) ⟨Nat.zero_le _, Nat.zero_le _⟩ (fun E61 hJ63 => ?_)
                  refine v_aload_n C 0 dX4_markDays_129 rfl rfl ?_
                  refine v_iload C 6 dX4_markDays_130 rfl ?_
                  obtain ⟨i69, hE69, hb69⟩ := hJ63.2.2.getO (b := 45) (by omega) rfl
                  refine v_cVv C dX4_markDays_132 lX4_36 mX4_mark 45 (by omega) hE69 (by decide) rfl (t_X4_mark l G ad hJ63 r55) ⟨by decide, by decide⟩ rfl (Nat.le_of_ble_eq_true rfl) ⟨Nat.zero_le _, Nat.zero_le _⟩ (fun E66 hJ68 => ?_)
                  obtain ⟨x70, ex70⟩ : ∃ y : Int32, y = y17 + 1 := ⟨_, rfl⟩
                  have hx70 : x70.toInt = (y17.toInt + 1) := by rw [ex70]; exact ti_add (rfl : Int32.toInt y17 = _) (show (1 : Int32).toInt = 1 by decide) (by omega) (by omega)
                  refine v_iinc (v := x70) (lv' := [(0, .ref (ad 45)), (1, .ref (ad b)), (4, .int x9), (5, .int y27), (6, .int x70), (7, .int x25), (8, .int r55)]) C 4 [1, 2, 3, 4, 0, 5, 6] dX4_markDays_135 rfl (ex70.symm) (by decide) rfl ?_
                  refine v_goto C 57 dX4_markDays_138 (by decide) ?_
                  refine v_sub (lv' := [(0, .ref (ad 45)), (1, .ref (ad b)), (4, .int x9), (5, .int y27), (6, .int x70)]) [0, 1, 2, 3, 4] rfl ?_
                  exact ih20 _ y27 x70 hJ68 (by have := hx70; omega) (by have := hx70; omega) (by have := hx70; omega)
              · obtain ⟨x71, ex71⟩ : ∃ y : Int32, y = y27 + 1 := ⟨_, rfl⟩
                have hx71 : x71.toInt = (y27.toInt + 1) := by rw [ex71]; exact ti_add (rfl : Int32.toInt y27 = _) (show (1 : Int32).toInt = 1 by decide) (by omega) (by omega)
                refine v_iinc (v := x71) (lv' := [(0, .ref (ad 45)), (1, .ref (ad b)), (4, .int x9), (5, .int x71), (6, .int y17), (7, .int x25)]) C 3 [1, 2, 3, 0, 4, 5] dX4_markDays_99 rfl (ex71.symm) (by decide) rfl ?_
                refine v_goto C 76 dX4_markDays_102 (by decide) ?_
                exact ih30 _ x71 hJ29 (by have := hx71; omega) (by have := hx71; omega)
        exact LP26 100000 _ y16 hJ19 (by omega) (by omega)
  refine v_sub (lv' := [(0, .ref (ad 45)), (1, .ref (ad b)), (4, .int x9), (5, .int r12), (6, .int x5)]) [0, 1, 4, 5, 6] rfl ?_
  exact LP15 2000000 _ r12 x5 hJ (by omega) (by omega) (by omega)

set_option maxRecDepth 20000 in
theorem t_X4_gather (l : Launch) (G : Gl) (ad : Nat → Nat) {k : Nat} {E0 E : Nat → va_E} (hJ : J8 G ad k E0 E) (x : Int32) (y : Int32) (z : Int32) : CtV l G yX4_gather cX4_gather 8 3 75 (98 + 9 * k) ad E [.ref (ad 45), .int x, .int y, .ref (ad 6), .int z] (fun E' => J8 G ad k E0 E') := by
  refine CtV.of (by decide) (Nat.le_of_ble_eq_true rfl) (fun X A C => ?_)
  refine v_sub (lv' := [(0, .ref (ad 45)), (1, .int x), (2, .int y), (3, .ref (ad 6)), (4, .int z)]) [0, 1, 2, 3, 4] rfl ?_
  have hk5 := hJ.1
  refine v_aload_n C 0 dX4_gather_0 rfl rfl ?_
  obtain ⟨i1, hE1, hb1⟩ := hJ.2.2.getO (b := 45) (by omega) rfl
  refine v_geti (v := i1 5) C 45 dX4_gather_1 fX4_19 (by omega) hE1 rfl rfl ?_
  have hi1_5 : (0 : Int) ≤ (i1 5).toInt ∧ (i1 5).toInt ≤ 1 := hb1 5
  refine b_if_eq C 24 dX4_gather_4 (by decide) (rfl : Int32.toInt (i1 5) = _) (fun c2 => ?_) (fun c2 => ?_)
  · refine v_aload_n C 0 dX4_gather_24 rfl rfl ?_
    refine v_iconst (v := 1) C dX4_gather_25 (by decide) ?_
    refine v_puti C 45 dX4_gather_26 fX4_19 (by omega) hE1 rfl rfl rfl rfl (fun E3 hE3_45 oE3 => ?_)
    obtain ⟨hJ4, hb5⟩ := hJ.2.2.setO rfl (by unfold P8; omega) hb1 (k := 5) (show (0 : Int) ≤ Int32.toInt 1 ∧ Int32.toInt 1 ≤ 1 by decide) hE3_45 oE3
    have hJ4 := hJ.with hJ4
    refine v_aload_n C 0 dX4_gather_29 rfl rfl ?_
    refine v_iload_n C 1 dX4_gather_30 rfl rfl ?_
    refine v_puti C 45 dX4_gather_31 fX4_23 (by omega) hE3_45 rfl rfl rfl rfl (fun E6 hE6_45 oE6 => ?_)
    obtain ⟨hJ7, hb8⟩ := hJ4.2.2.setO rfl (by unfold P8; omega) hb5 (k := 3) (ti_any x) hE6_45 oE6
    have hJ7 := hJ4.with hJ7
    refine v_aload_n C 0 dX4_gather_34 rfl rfl ?_
    refine v_iload_n C 2 dX4_gather_35 rfl rfl ?_
    refine v_puti C 45 dX4_gather_36 fX4_27 (by omega) hE6_45 rfl rfl rfl rfl (fun E9 hE9_45 oE9 => ?_)
    obtain ⟨hJ10, hb11⟩ := hJ7.2.2.setO rfl (by unfold P8; omega) hb8 (k := 4) (ti_any y) hE9_45 oE9
    have hJ10 := hJ7.with hJ10
    refine v_iload_n C 2 dX4_gather_39 rfl rfl ?_
    refine v_iload_n C 1 dX4_gather_40 rfl rfl ?_
    refine v_isub C dX4_gather_41 ?_
    refine v_top (fun x12 _ => ?_)
    refine v_bipush (v := 64) C dX4_gather_42 (by decide) ?_
    refine v_idiv C dX4_gather_44 (by decide) ?_
    refine v_top (fun x13 ex13 => ?_)
    have hx13 : (-33554432 : Int) ≤ x13.toInt ∧ x13.toInt ≤ 33554432 := by rw [ex13]; exact ti_tdb (show (64 : Int32).toInt = 64 by decide) (by decide)
    refine v_iconst (v := 1) C dX4_gather_45 (by decide) ?_
    refine v_iadd C dX4_gather_46 ?_
    refine v_top (fun x14 ex14 => ?_)
    have hx14 : x14.toInt = (x13.toInt + 1) := by rw [ex14]; exact ti_add (rfl : Int32.toInt x13 = _) (show (1 : Int32).toInt = 1 by decide) (by omega) (by omega)
    refine v_aload_n C 0 dX4_gather_47 rfl rfl ?_
    refine v_getr C 45 dX4_gather_48 fX4_9 (by omega) hE9_45 rfl rfl ?_
    obtain ⟨f15, hE15⟩ := hJ10.2.2.getL (b := 46) (by omega) rfl
    refine v_alenJ (v := 31251) C 46 dX4_gather_51 (by omega) hE15 (by decide) ?_
    refine v_mmin C dX4_gather_52 lX4_30 mJ9_min_7cf53.2.2.1 mJ9_min_7cf53.2.1 mJ9_min_7cf53.1 ⟨by decide, Nat.le_of_ble_eq_true rfl⟩ ⟨Nat.zero_le _, Nat.zero_le _⟩ ?_
    refine v_top (fun x16 ex16 => ?_)
    have hx16 : x16.toInt ≤ (x13.toInt + 1) ∧ x16.toInt ≤ 31251 ∧ (x16.toInt = (x13.toInt + 1) ∨ x16.toInt = 31251) := by rw [ex16]; exact mmin_b hx14 (show (31251 : Int32).toInt = 31251 by decide)
    refine v_istore (lv' := [(0, .ref (ad 45)), (1, .int x), (2, .int y), (3, .ref (ad 6)), (4, .int z), (5, .int x16)]) C [1, 2, 3, 4, 5, 0] dX4_gather_55 (by decide) rfl ?_
    refine v_iconst (v := 0) C dX4_gather_57 (by decide) ?_
    refine v_istore (lv' := [(0, .ref (ad 45)), (1, .int x), (2, .int y), (3, .ref (ad 6)), (4, .int z), (5, .int x16), (6, .int 0)]) C [1, 2, 3, 4, 5, 6, 0] dX4_gather_58 (by decide) rfl ?_
    have LP17 : ∀ (t : Nat) (E19 : Nat → va_E) (y18 : Int32), J8 G ad k E0 E19 → ((0 : Int) ≤ y18.toInt ∧ y18.toInt ≤ 31251) → 31252 - y18.toInt < (t : Int) → V X G A 8 (QV X G A (98 + 9 * k) ad (fun E' => J8 G ad k E0 E')) (98 + 9 * k) ad 0 0 E19 60 [(0, .ref (ad 45)), (1, .int x), (2, .int y), (3, .ref (ad 6)), (4, .int z), (5, .int x16), (6, .int y18)] [] := by
      intro t23
      induction t23 with
      | zero => intro E19 y18 hJ20 hy18 hm22; exfalso; omega
      | succ t23 ih21 =>
        intro E19 y18 hJ20 hy18 hm22
        refine v_iload C 6 dX4_gather_60 rfl ?_
        refine v_iload C 5 dX4_gather_62 rfl ?_
        refine b_icmp_ge C 81 dX4_gather_64 (by decide) (rfl : Int32.toInt y18 = _) (rfl : Int32.toInt x16 = _) (fun c24 => ?_) (fun c24 => ?_)
        · refine v_aload_n C 0 dX4_gather_81 rfl rfl ?_
          refine v_iload_n C 1 dX4_gather_82 rfl rfl ?_
          obtain ⟨i29, hE29, hb29⟩ := hJ20.2.2.getO (b := 45) (by omega) rfl
          refine v_cVv C dX4_gather_83 lX4_36 mX4_mark 45 (by omega) hE29 (by decide) rfl (t_X4_mark l G ad hJ20 x) ⟨by decide, by decide⟩ rfl (Nat.le_of_ble_eq_true rfl) ⟨Nat.zero_le _, Nat.zero_le _⟩ (fun E26 hJ28 => ?_)
          refine v_aload_n C 0 dX4_gather_86 rfl rfl ?_
          refine v_iload_n C 2 dX4_gather_87 rfl rfl ?_
          obtain ⟨i34, hE34, hb34⟩ := hJ28.2.2.getO (b := 45) (by omega) rfl
          refine v_cVv C dX4_gather_88 lX4_36 mX4_mark 45 (by omega) hE34 (by decide) rfl (t_X4_mark l G ad hJ28 y) ⟨by decide, by decide⟩ rfl (Nat.le_of_ble_eq_true rfl) ⟨Nat.zero_le _, Nat.zero_le _⟩ (fun E31 hJ33 => ?_)
          refine v_iconst (v := 0) C dX4_gather_91 (by decide) ?_
          refine v_istore (lv' := [(0, .ref (ad 45)), (1, .int x), (2, .int y), (3, .ref (ad 6)), (4, .int z), (5, .int x16), (6, .int 0)]) C [1, 2, 3, 4, 5, 6, 0] dX4_gather_92 (by decide) rfl ?_
          have LP35 : ∀ (t : Nat) (E38 : Nat → va_E) (y36 : Int32), J8 G ad k E0 E38 → ((0 : Int) ≤ y36.toInt ∧ y36.toInt ≤ 5) → (y36.toInt ≤ (k : Int)) → 6 - y36.toInt < (t : Int) → V X G A 8 (QV X G A (98 + 9 * k) ad (fun E' => J8 G ad k E0 E')) (98 + 9 * k) ad 0 0 E38 94 [(0, .ref (ad 45)), (3, .ref (ad 6)), (4, .int z), (5, .int x16), (6, .int y36)] [] := by
            intro t42
            induction t42 with
            | zero => intro E38 y36 hJ39 hy36 hq37 hm41; exfalso; omega
            | succ t42 ih40 =>
              intro E38 y36 hJ39 hy36 hq37 hm41
              refine v_iload C 4 dX4_gather_94 rfl ?_
              refine v_aload_n C 1 dX4_gather_96 rfl rfl ?_
              obtain ⟨i43, hE43, hb43⟩ := hJ39.2.2.getO (b := 6) (by omega) rfl
              refine v_geti (v := i43 1) C 6 dX4_gather_97 fX4_40 (by omega) hE43 rfl rfl ?_
              have hi43_1 : (k : Int) ≤ (i43 1).toInt ∧ (i43 1).toInt ≤ (k : Int) := hb43 1
              refine b_icmp_ge C 136 dX4_gather_100 (by decide) (rfl : Int32.toInt y36 = _) (rfl : Int32.toInt (i43 1) = _) (fun c44 => ?_) (fun c44 => ?_)
              · refine v_aload_n C 0 dX4_gather_136 rfl rfl ?_
                refine v_iload C 3 dX4_gather_137 rfl ?_
                obtain ⟨i49, hE49, hb49⟩ := hJ39.2.2.getO (b := 45) (by omega) rfl
                refine v_cVv C dX4_gather_139 lX4_57 mX4_listMarks 45 (by omega) hE49 (by decide) rfl (t_X4_listMarks l G ad hJ39 x16 (show (-2147483648 : Int) ≤ Int32.toInt x16 ∧ Int32.toInt x16 ≤ 31251 by omega)) ⟨by decide, by decide⟩ rfl (Nat.le_of_ble_eq_true rfl) ⟨Nat.zero_le _, Nat.zero_le _⟩ (fun E46 hJ48 => ?_)
                exact v_vret C dX4_gather_142 rfl hJ48
              · refine v_aload_n C 1 dX4_gather_103 rfl rfl ?_
                refine v_iload C 4 dX4_gather_104 rfl ?_
                refine v_cVr C dX4_gather_106 lX4_45 mX7_at 6 (by omega) hE43 (by decide) rfl (t_X7_at l G ad hJ39 y36) ⟨by decide, by decide⟩ rfl (Nat.le_of_ble_eq_true rfl) ⟨Nat.zero_le _, Nat.zero_le _⟩ (fun r50 hp51 => ?_)
                rcases hp51 with ⟨hno52, rfl⟩ | ⟨i52x, hi52, hk52, rfl⟩
                · refine v_astoreN (lv' := [(0, .ref (ad 45)), (3, .ref (ad 6)), (4, .int z), (5, .int x16), (6, .int y36), (7, .null)]) C [1, 2, 3, 4, 5, 0] dX4_gather_109 (by decide) rfl ?_
                  refine v_aloadN C 5 dX4_gather_111 rfl ?_
                  refine v_ifnullN C 130 dX4_gather_113 (by decide) ?_
                  obtain ⟨x53, ex53⟩ : ∃ y : Int32, y = y36 + 1 := ⟨_, rfl⟩
                  have hx53 : x53.toInt = (y36.toInt + 1) := by rw [ex53]; exact ti_add (rfl : Int32.toInt y36 = _) (show (1 : Int32).toInt = 1 by decide) (by omega) (by omega)
                  refine v_iinc (v := x53) (lv' := [(0, .ref (ad 45)), (3, .ref (ad 6)), (4, .int z), (5, .int x16), (6, .int x53), (7, .null)]) C 4 [1, 2, 3, 4, 0, 5] dX4_gather_130 rfl (ex53.symm) (by decide) rfl ?_
                  refine v_goto C 94 dX4_gather_133 (by decide) ?_
                  refine v_sub (lv' := [(0, .ref (ad 45)), (3, .ref (ad 6)), (4, .int z), (5, .int x16), (6, .int x53)]) [0, 1, 2, 3, 4] rfl ?_
                  exact ih40 _ x53 hJ39 (by have := hx53; omega) (by have := hx53; omega) (by have := hx53; omega)
                · obtain ⟨b52, eb52⟩ : ∃ q : Nat, q = 98 + 9 * i52x := ⟨_, rfl⟩
                  rw [← eb52]
                  have hb52 : ZC k b52 := ⟨_, hk52, eb52⟩
                  have hb52n := hb52.n
                  refine v_astore (lv' := [(0, .ref (ad 45)), (3, .ref (ad 6)), (4, .int z), (5, .int x16), (6, .int y36), (7, .ref (ad b52))]) C [1, 2, 3, 4, 5, 0] dX4_gather_109 (by decide) rfl ?_
                  refine v_aload C 5 dX4_gather_111 rfl ?_
                  refine v_ifnull C dX4_gather_113 ?_
                  refine v_aload_n C 0 dX4_gather_116 rfl rfl ?_
                  refine v_aload C 5 dX4_gather_117 rfl ?_
                  obtain ⟨i58, hE58, hb58⟩ := hJ39.2.2.getO (b := 45) (by omega) rfl
                  refine v_cVv C dX4_gather_119 lX4_49 mX4_markChanges 45 (by omega) hE58 (by decide) rfl (t_X4_markChanges l G ad hJ39 b52 hb52) ⟨by decide, by decide⟩ rfl (Nat.le_of_ble_eq_true rfl) ⟨Nat.zero_le _, Nat.zero_le _⟩ (fun E55 hJ57 => ?_)
                  refine v_aload_n C 0 dX4_gather_122 rfl rfl ?_
                  refine v_aload C 5 dX4_gather_123 rfl ?_
                  refine v_iload C 2 dX4_gather_125 rfl ?_
                  obtain ⟨i63, hE63, hb63⟩ := hJ57.2.2.getO (b := 45) (by omega) rfl
                  refine v_cVv C dX4_gather_127 lX4_53 mX4_markDays 45 (by omega) hE63 (by decide) rfl (t_X4_markDays l G ad hJ57 b52 hb52 z) ⟨by decide, by decide⟩ rfl (Nat.le_of_ble_eq_true rfl) ⟨Nat.zero_le _, Nat.zero_le _⟩ (fun E60 hJ62 => ?_)
                  obtain ⟨x64, ex64⟩ : ∃ y : Int32, y = y36 + 1 := ⟨_, rfl⟩
                  have hx64 : x64.toInt = (y36.toInt + 1) := by rw [ex64]; exact ti_add (rfl : Int32.toInt y36 = _) (show (1 : Int32).toInt = 1 by decide) (by omega) (by omega)
                  refine v_iinc (v := x64) (lv' := [(0, .ref (ad 45)), (3, .ref (ad 6)), (4, .int z), (5, .int x16), (6, .int x64), (7, .ref (ad b52))]) C 4 [1, 2, 3, 4, 0, 5] dX4_gather_130 rfl (ex64.symm) (by decide) rfl ?_
                  refine v_goto C 94 dX4_gather_133 (by decide) ?_
                  refine v_sub (lv' := [(0, .ref (ad 45)), (3, .ref (ad 6)), (4, .int z), (5, .int x16), (6, .int x64)]) [0, 1, 2, 3, 4] rfl ?_
                  exact ih40 _ x64 hJ62 (by have := hx64; omega) (by have := hx64; omega) (by have := hx64; omega)
          refine v_sub (lv' := [(0, .ref (ad 45)), (3, .ref (ad 6)), (4, .int z), (5, .int x16), (6, .int 0)]) [0, 3, 4, 5, 6] rfl ?_
          exact LP35 100000 _ 0 hJ33 (by have := (show (0 : Int32).toInt = 0 by decide); omega) (by have := (show (0 : Int32).toInt = 0 by decide); omega) (by have := (show (0 : Int32).toInt = 0 by decide); omega)
        · refine v_aload_n C 0 dX4_gather_67 rfl rfl ?_
          obtain ⟨i65, hE65, hb65⟩ := hJ20.2.2.getO (b := 45) (by omega) rfl
          refine v_getr C 45 dX4_gather_68 fX4_9 (by omega) hE65 rfl rfl ?_
          refine v_iload C 6 dX4_gather_71 rfl ?_
          refine v_lconst (v := 0) C dX4_gather_73 (by decide) ?_
          obtain ⟨f66, hE66⟩ := hJ20.2.2.getL (b := 46) (by omega) rfl
          refine v_jast C 46 dX4_gather_74 (by omega) hE66 (ti_in (rfl : Int32.toInt y18 = _) (by omega) (by omega)) (fun E67 hE67_46 oE67 => ?_)
          rw [ti_cl (rfl : Int32.toInt y18 = _)] at hE67_46
          have hE67_45 := (oE67 45 (by decide)).trans hE65
          have hJ68 := hJ20.with (hJ20.2.2.setL rfl (by unfold P8; omega) hE67_46 oE67)
          obtain ⟨x69, ex69⟩ : ∃ y : Int32, y = y18 + 1 := ⟨_, rfl⟩
          have hx69 : x69.toInt = (y18.toInt + 1) := by rw [ex69]; exact ti_add (rfl : Int32.toInt y18 = _) (show (1 : Int32).toInt = 1 by decide) (by omega) (by omega)
          refine v_iinc (v := x69) (lv' := [(0, .ref (ad 45)), (1, .int x), (2, .int y), (3, .ref (ad 6)), (4, .int z), (5, .int x16), (6, .int x69)]) C 6 [1, 2, 3, 4, 5, 6, 0] dX4_gather_75 rfl (ex69.symm) (by decide) rfl ?_
          refine v_goto C 60 dX4_gather_78 (by decide) ?_
          exact ih21 _ x69 hJ68 (by have := hx69; omega) (by have := hx69; omega)
    exact LP17 100000 _ 0 hJ10 (by have := (show (0 : Int32).toInt = 0 by decide); omega) (by have := (show (0 : Int32).toInt = 0 by decide); omega)
  · refine v_iload_n C 1 dX4_gather_7 rfl rfl ?_
    refine v_aload_n C 0 dX4_gather_8 rfl rfl ?_
    refine v_geti (v := i1 3) C 45 dX4_gather_9 fX4_23 (by omega) hE1 rfl rfl ?_
    refine b_icmp_ne C 24 dX4_gather_12 (by decide) (rfl : Int32.toInt x = _) (rfl : Int32.toInt (i1 3) = _) (fun c70 => ?_) (fun c70 => ?_)
    · refine v_aload_n C 0 dX4_gather_24 rfl rfl ?_
      refine v_iconst (v := 1) C dX4_gather_25 (by decide) ?_
      refine v_puti C 45 dX4_gather_26 fX4_19 (by omega) hE1 rfl rfl rfl rfl (fun E71 hE71_45 oE71 => ?_)
      obtain ⟨hJ72, hb73⟩ := hJ.2.2.setO rfl (by unfold P8; omega) hb1 (k := 5) (show (0 : Int) ≤ Int32.toInt 1 ∧ Int32.toInt 1 ≤ 1 by decide) hE71_45 oE71
      have hJ72 := hJ.with hJ72
      refine v_aload_n C 0 dX4_gather_29 rfl rfl ?_
      refine v_iload_n C 1 dX4_gather_30 rfl rfl ?_
      refine v_puti C 45 dX4_gather_31 fX4_23 (by omega) hE71_45 rfl rfl rfl rfl (fun E74 hE74_45 oE74 => ?_)
      obtain ⟨hJ75, hb76⟩ := hJ72.2.2.setO rfl (by unfold P8; omega) hb73 (k := 3) (ti_any x) hE74_45 oE74
      have hJ75 := hJ72.with hJ75
      refine v_aload_n C 0 dX4_gather_34 rfl rfl ?_
      refine v_iload_n C 2 dX4_gather_35 rfl rfl ?_
      refine v_puti C 45 dX4_gather_36 fX4_27 (by omega) hE74_45 rfl rfl rfl rfl (fun E77 hE77_45 oE77 => ?_)
      obtain ⟨hJ78, hb79⟩ := hJ75.2.2.setO rfl (by unfold P8; omega) hb76 (k := 4) (ti_any y) hE77_45 oE77
      have hJ78 := hJ75.with hJ78
      refine v_iload_n C 2 dX4_gather_39 rfl rfl ?_
      refine v_iload_n C 1 dX4_gather_40 rfl rfl ?_
      refine v_isub C dX4_gather_41 ?_
      refine v_top (fun x80 _ => ?_)
      refine v_bipush (v := 64) C dX4_gather_42 (by decide) ?_
      refine v_idiv C dX4_gather_44 (by decide) ?_
      refine v_top (fun x81 ex81 => ?_)
      have hx81 : (-33554432 : Int) ≤ x81.toInt ∧ x81.toInt ≤ 33554432 := by rw [ex81]; exact ti_tdb (show (64 : Int32).toInt = 64 by decide) (by decide)
      refine v_iconst (v := 1) C dX4_gather_45 (by decide) ?_
      refine v_iadd C dX4_gather_46 ?_
      refine v_top (fun x82 ex82 => ?_)
      have hx82 : x82.toInt = (x81.toInt + 1) := by rw [ex82]; exact ti_add (rfl : Int32.toInt x81 = _) (show (1 : Int32).toInt = 1 by decide) (by omega) (by omega)
      refine v_aload_n C 0 dX4_gather_47 rfl rfl ?_
      refine v_getr C 45 dX4_gather_48 fX4_9 (by omega) hE77_45 rfl rfl ?_
      obtain ⟨f83, hE83⟩ := hJ78.2.2.getL (b := 46) (by omega) rfl
      refine v_alenJ (v := 31251) C 46 dX4_gather_51 (by omega) hE83 (by decide) ?_
      refine v_mmin C dX4_gather_52 lX4_30 mJ9_min_7cf53.2.2.1 mJ9_min_7cf53.2.1 mJ9_min_7cf53.1 ⟨by decide, Nat.le_of_ble_eq_true rfl⟩ ⟨Nat.zero_le _, Nat.zero_le _⟩ ?_
      refine v_top (fun x84 ex84 => ?_)
      have hx84 : x84.toInt ≤ (x81.toInt + 1) ∧ x84.toInt ≤ 31251 ∧ (x84.toInt = (x81.toInt + 1) ∨ x84.toInt = 31251) := by rw [ex84]; exact mmin_b hx82 (show (31251 : Int32).toInt = 31251 by decide)
      refine v_istore (lv' := [(0, .ref (ad 45)), (1, .int x), (2, .int y), (3, .ref (ad 6)), (4, .int z), (5, .int x84)]) C [1, 2, 3, 4, 5, 0] dX4_gather_55 (by decide) rfl ?_
      refine v_iconst (v := 0) C dX4_gather_57 (by decide) ?_
      refine v_istore (lv' := [(0, .ref (ad 45)), (1, .int x), (2, .int y), (3, .ref (ad 6)), (4, .int z), (5, .int x84), (6, .int 0)]) C [1, 2, 3, 4, 5, 6, 0] dX4_gather_58 (by decide) rfl ?_
      have LP85 : ∀ (t : Nat) (E87 : Nat → va_E) (y86 : Int32), J8 G ad k E0 E87 → ((0 : Int) ≤ y86.toInt ∧ y86.toInt ≤ 31251) → 31252 - y86.toInt < (t : Int) → V X G A 8 (QV X G A (98 + 9 * k) ad (fun E' => J8 G ad k E0 E')) (98 + 9 * k) ad 0 0 E87 60 [(0, .ref (ad 45)), (1, .int x), (2, .int y), (3, .ref (ad 6)), (4, .int z), (5, .int x84), (6, .int y86)] [] := by
        intro t91
        induction t91 with
        | zero => intro E87 y86 hJ88 hy86 hm90; exfalso; omega
        | succ t91 ih89 =>
          intro E87 y86 hJ88 hy86 hm90
          refine v_iload C 6 dX4_gather_60 rfl ?_
          refine v_iload C 5 dX4_gather_62 rfl ?_
          refine b_icmp_ge C 81 dX4_gather_64 (by decide) (rfl : Int32.toInt y86 = _) (rfl : Int32.toInt x84 = _) (fun c92 => ?_) (fun c92 => ?_)
          · refine v_aload_n C 0 dX4_gather_81 rfl rfl ?_
            refine v_iload_n C 1 dX4_gather_82 rfl rfl ?_
            obtain ⟨i97, hE97, hb97⟩ := hJ88.2.2.getO (b := 45) (by omega) rfl
            refine v_cVv C dX4_gather_83 lX4_36 mX4_mark 45 (by omega) hE97 (by decide) rfl (t_X4_mark l G ad hJ88 x) ⟨by decide, by decide⟩ rfl (Nat.le_of_ble_eq_true rfl) ⟨Nat.zero_le _, Nat.zero_le _⟩ (fun E94 hJ96 => ?_)
            refine v_aload_n C 0 dX4_gather_86 rfl rfl ?_
            refine v_iload_n C 2 dX4_gather_87 rfl rfl ?_
            obtain ⟨i102, hE102, hb102⟩ := hJ96.2.2.getO (b := 45) (by omega) rfl
            refine v_cVv C dX4_gather_88 lX4_36 mX4_mark 45 (by omega) hE102 (by decide) rfl (t_X4_mark l G ad hJ96 y) ⟨by decide, by decide⟩ rfl (Nat.le_of_ble_eq_true rfl) ⟨Nat.zero_le _, Nat.zero_le _⟩ (fun E99 hJ101 => ?_)
            refine v_iconst (v := 0) C dX4_gather_91 (by decide) ?_
            refine v_istore (lv' := [(0, .ref (ad 45)), (1, .int x), (2, .int y), (3, .ref (ad 6)), (4, .int z), (5, .int x84), (6, .int 0)]) C [1, 2, 3, 4, 5, 6, 0] dX4_gather_92 (by decide) rfl ?_
            have LP103 : ∀ (t : Nat) (E106 : Nat → va_E) (y104 : Int32), J8 G ad k E0 E106 → ((0 : Int) ≤ y104.toInt ∧ y104.toInt ≤ 5) → (y104.toInt ≤ (k : Int)) → 6 - y104.toInt < (t : Int) → V X G A 8 (QV X G A (98 + 9 * k) ad (fun E' => J8 G ad k E0 E')) (98 + 9 * k) ad 0 0 E106 94 [(0, .ref (ad 45)), (3, .ref (ad 6)), (4, .int z), (5, .int x84), (6, .int y104)] [] := by
              intro t110
              induction t110 with
              | zero => intro E106 y104 hJ107 hy104 hq105 hm109; exfalso; omega
              | succ t110 ih108 =>
                intro E106 y104 hJ107 hy104 hq105 hm109
                refine v_iload C 4 dX4_gather_94 rfl ?_
                refine v_aload_n C 1 dX4_gather_96 rfl rfl ?_
                obtain ⟨i111, hE111, hb111⟩ := hJ107.2.2.getO (b := 6) (by omega) rfl
                refine v_geti (v := i111 1) C 6 dX4_gather_97 fX4_40 (by omega) hE111 rfl rfl ?_
                have hi111_1 : (k : Int) ≤ (i111 1).toInt ∧ (i111 1).toInt ≤ (k : Int) := hb111 1
                refine b_icmp_ge C 136 dX4_gather_100 (by decide) (rfl : Int32.toInt y104 = _) (rfl : Int32.toInt (i111 1) = _) (fun c112 => ?_) (fun c112 => ?_)
                · refine v_aload_n C 0 dX4_gather_136 rfl rfl ?_
                  refine v_iload C 3 dX4_gather_137 rfl ?_
                  obtain ⟨i117, hE117, hb117⟩ := hJ107.2.2.getO (b := 45) (by omega) rfl
                  refine v_cVv C dX4_gather_139 lX4_57 mX4_listMarks 45 (by omega) hE117 (by decide) rfl (t_X4_listMarks l G ad hJ107 x84 (show (-2147483648 : Int) ≤ Int32.toInt x84 ∧ Int32.toInt x84 ≤ 31251 by omega)) ⟨by decide, by decide⟩ rfl (Nat.le_of_ble_eq_true rfl) ⟨Nat.zero_le _, Nat.zero_le _⟩ (fun E114 hJ116 => ?_)
                  exact v_vret C dX4_gather_142 rfl hJ116
                · refine v_aload_n C 1 dX4_gather_103 rfl rfl ?_
                  refine v_iload C 4 dX4_gather_104 rfl ?_
                  refine v_cVr C dX4_gather_106 lX4_45 mX7_at 6 (by omega) hE111 (by decide) rfl (t_X7_at l G ad hJ107 y104) ⟨by decide, by decide⟩ rfl (Nat.le_of_ble_eq_true rfl) ⟨Nat.zero_le _, Nat.zero_le _⟩ (fun r118 hp119 => ?_)
                  rcases hp119 with ⟨hno120, rfl⟩ | ⟨i120x, hi120, hk120, rfl⟩
                  · refine v_astoreN (lv' := [(0, .ref (ad 45)), (3, .ref (ad 6)), (4, .int z), (5, .int x84), (6, .int y104), (7, .null)]) C [1, 2, 3, 4, 5, 0] dX4_gather_109 (by decide) rfl ?_
                    refine v_aloadN C 5 dX4_gather_111 rfl ?_
                    refine v_ifnullN C 130 dX4_gather_113 (by decide) ?_
                    obtain ⟨x121, ex121⟩ : ∃ y : Int32, y = y104 + 1 := ⟨_, rfl⟩
                    have hx121 : x121.toInt = (y104.toInt + 1) := by rw [ex121]; exact ti_add (rfl : Int32.toInt y104 = _) (show (1 : Int32).toInt = 1 by decide) (by omega) (by omega)
                    refine v_iinc (v := x121) (lv' := [(0, .ref (ad 45)), (3, .ref (ad 6)), (4, .int z), (5, .int x84), (6, .int x121), (7, .null)]) C 4 [1, 2, 3, 4, 0, 5] dX4_gather_130 rfl (ex121.symm) (by decide) rfl ?_
                    refine v_goto C 94 dX4_gather_133 (by decide) ?_
                    refine v_sub (lv' := [(0, .ref (ad 45)), (3, .ref (ad 6)), (4, .int z), (5, .int x84), (6, .int x121)]) [0, 1, 2, 3, 4] rfl ?_
                    exact ih108 _ x121 hJ107 (by have := hx121; omega) (by have := hx121; omega) (by have := hx121; omega)
                  · obtain ⟨b120, eb120⟩ : ∃ q : Nat, q = 98 + 9 * i120x := ⟨_, rfl⟩
                    rw [← eb120]
                    have hb120 : ZC k b120 := ⟨_, hk120, eb120⟩
                    have hb120n := hb120.n
                    refine v_astore (lv' := [(0, .ref (ad 45)), (3, .ref (ad 6)), (4, .int z), (5, .int x84), (6, .int y104), (7, .ref (ad b120))]) C [1, 2, 3, 4, 5, 0] dX4_gather_109 (by decide) rfl ?_
                    refine v_aload C 5 dX4_gather_111 rfl ?_
                    refine v_ifnull C dX4_gather_113 ?_
                    refine v_aload_n C 0 dX4_gather_116 rfl rfl ?_
                    refine v_aload C 5 dX4_gather_117 rfl ?_
                    obtain ⟨i126, hE126, hb126⟩ := hJ107.2.2.getO (b := 45) (by omega) rfl
                    refine v_cVv C dX4_gather_119 lX4_49 mX4_markChanges 45 (by omega) hE126 (by decide) rfl (t_X4_markChanges l G ad hJ107 b120 hb120) ⟨by decide, by decide⟩ rfl (Nat.le_of_ble_eq_true rfl) ⟨Nat.zero_le _, Nat.zero_le _⟩ (fun E123 hJ125 => ?_)
                    refine v_aload_n C 0 dX4_gather_122 rfl rfl ?_
                    refine v_aload C 5 dX4_gather_123 rfl ?_
                    refine v_iload C 2 dX4_gather_125 rfl ?_
                    obtain ⟨i131, hE131, hb131⟩ := hJ125.2.2.getO (b := 45) (by omega) rfl
                    refine v_cVv C dX4_gather_127 lX4_53 mX4_markDays 45 (by omega) hE131 (by decide) rfl (t_X4_markDays l G ad hJ125 b120 hb120 z) ⟨by decide, by decide⟩ rfl (Nat.le_of_ble_eq_true rfl) ⟨Nat.zero_le _, Nat.zero_le _⟩ (fun E128 hJ130 => ?_)
                    obtain ⟨x132, ex132⟩ : ∃ y : Int32, y = y104 + 1 := ⟨_, rfl⟩
                    have hx132 : x132.toInt = (y104.toInt + 1) := by rw [ex132]; exact ti_add (rfl : Int32.toInt y104 = _) (show (1 : Int32).toInt = 1 by decide) (by omega) (by omega)
                    refine v_iinc (v := x132) (lv' := [(0, .ref (ad 45)), (3, .ref (ad 6)), (4, .int z), (5, .int x84), (6, .int x132), (7, .ref (ad b120))]) C 4 [1, 2, 3, 4, 0, 5] dX4_gather_130 rfl (ex132.symm) (by decide) rfl ?_
                    refine v_goto C 94 dX4_gather_133 (by decide) ?_
                    refine v_sub (lv' := [(0, .ref (ad 45)), (3, .ref (ad 6)), (4, .int z), (5, .int x84), (6, .int x132)]) [0, 1, 2, 3, 4] rfl ?_
                    exact ih108 _ x132 hJ130 (by have := hx132; omega) (by have := hx132; omega) (by have := hx132; omega)
            refine v_sub (lv' := [(0, .ref (ad 45)), (3, .ref (ad 6)), (4, .int z), (5, .int x84), (6, .int 0)]) [0, 3, 4, 5, 6] rfl ?_
            exact LP103 100000 _ 0 hJ101 (by have := (show (0 : Int32).toInt = 0 by decide); omega) (by have := (show (0 : Int32).toInt = 0 by decide); omega) (by have := (show (0 : Int32).toInt = 0 by decide); omega)
          · refine v_aload_n C 0 dX4_gather_67 rfl rfl ?_
            obtain ⟨i133, hE133, hb133⟩ := hJ88.2.2.getO (b := 45) (by omega) rfl
            refine v_getr C 45 dX4_gather_68 fX4_9 (by omega) hE133 rfl rfl ?_
            refine v_iload C 6 dX4_gather_71 rfl ?_
            refine v_lconst (v := 0) C dX4_gather_73 (by decide) ?_
            obtain ⟨f134, hE134⟩ := hJ88.2.2.getL (b := 46) (by omega) rfl
            refine v_jast C 46 dX4_gather_74 (by omega) hE134 (ti_in (rfl : Int32.toInt y86 = _) (by omega) (by omega)) (fun E135 hE135_46 oE135 => ?_)
            rw [ti_cl (rfl : Int32.toInt y86 = _)] at hE135_46
            have hE135_45 := (oE135 45 (by decide)).trans hE133
            have hJ136 := hJ88.with (hJ88.2.2.setL rfl (by unfold P8; omega) hE135_46 oE135)
            obtain ⟨x137, ex137⟩ : ∃ y : Int32, y = y86 + 1 := ⟨_, rfl⟩
            have hx137 : x137.toInt = (y86.toInt + 1) := by rw [ex137]; exact ti_add (rfl : Int32.toInt y86 = _) (show (1 : Int32).toInt = 1 by decide) (by omega) (by omega)
            refine v_iinc (v := x137) (lv' := [(0, .ref (ad 45)), (1, .int x), (2, .int y), (3, .ref (ad 6)), (4, .int z), (5, .int x84), (6, .int x137)]) C 6 [1, 2, 3, 4, 5, 6, 0] dX4_gather_75 rfl (ex137.symm) (by decide) rfl ?_
            refine v_goto C 60 dX4_gather_78 (by decide) ?_
            exact ih89 _ x137 hJ136 (by have := hx137; omega) (by have := hx137; omega)
      exact LP85 100000 _ 0 hJ78 (by have := (show (0 : Int32).toInt = 0 by decide); omega) (by have := (show (0 : Int32).toInt = 0 by decide); omega)
    · refine v_iload_n C 2 dX4_gather_15 rfl rfl ?_
      refine v_aload_n C 0 dX4_gather_16 rfl rfl ?_
      refine v_geti (v := i1 4) C 45 dX4_gather_17 fX4_27 (by omega) hE1 rfl rfl ?_
      refine b_icmp_ne C 24 dX4_gather_20 (by decide) (rfl : Int32.toInt y = _) (rfl : Int32.toInt (i1 4) = _) (fun c138 => ?_) (fun c138 => ?_)
      · refine v_aload_n C 0 dX4_gather_24 rfl rfl ?_
        refine v_iconst (v := 1) C dX4_gather_25 (by decide) ?_
        refine v_puti C 45 dX4_gather_26 fX4_19 (by omega) hE1 rfl rfl rfl rfl (fun E139 hE139_45 oE139 => ?_)
        obtain ⟨hJ140, hb141⟩ := hJ.2.2.setO rfl (by unfold P8; omega) hb1 (k := 5) (show (0 : Int) ≤ Int32.toInt 1 ∧ Int32.toInt 1 ≤ 1 by decide) hE139_45 oE139
        have hJ140 := hJ.with hJ140
        refine v_aload_n C 0 dX4_gather_29 rfl rfl ?_
        refine v_iload_n C 1 dX4_gather_30 rfl rfl ?_
        refine v_puti C 45 dX4_gather_31 fX4_23 (by omega) hE139_45 rfl rfl rfl rfl (fun E142 hE142_45 oE142 => ?_)
        obtain ⟨hJ143, hb144⟩ := hJ140.2.2.setO rfl (by unfold P8; omega) hb141 (k := 3) (ti_any x) hE142_45 oE142
        have hJ143 := hJ140.with hJ143
        refine v_aload_n C 0 dX4_gather_34 rfl rfl ?_
        refine v_iload_n C 2 dX4_gather_35 rfl rfl ?_
        refine v_puti C 45 dX4_gather_36 fX4_27 (by omega) hE142_45 rfl rfl rfl rfl (fun E145 hE145_45 oE145 => ?_)
        obtain ⟨hJ146, hb147⟩ := hJ143.2.2.setO rfl (by unfold P8; omega) hb144 (k := 4) (ti_any y) hE145_45 oE145
        have hJ146 := hJ143.with hJ146
        refine v_iload_n C 2 dX4_gather_39 rfl rfl ?_
        refine v_iload_n C 1 dX4_gather_40 rfl rfl ?_
        refine v_isub C dX4_gather_41 ?_
        refine v_top (fun x148 _ => ?_)
        refine v_bipush (v := 64) C dX4_gather_42 (by decide) ?_
        refine v_idiv C dX4_gather_44 (by decide) ?_
        refine v_top (fun x149 ex149 => ?_)
        have hx149 : (-33554432 : Int) ≤ x149.toInt ∧ x149.toInt ≤ 33554432 := by rw [ex149]; exact ti_tdb (show (64 : Int32).toInt = 64 by decide) (by decide)
        refine v_iconst (v := 1) C dX4_gather_45 (by decide) ?_
        refine v_iadd C dX4_gather_46 ?_
        refine v_top (fun x150 ex150 => ?_)
        have hx150 : x150.toInt = (x149.toInt + 1) := by rw [ex150]; exact ti_add (rfl : Int32.toInt x149 = _) (show (1 : Int32).toInt = 1 by decide) (by omega) (by omega)
        refine v_aload_n C 0 dX4_gather_47 rfl rfl ?_
        refine v_getr C 45 dX4_gather_48 fX4_9 (by omega) hE145_45 rfl rfl ?_
        obtain ⟨f151, hE151⟩ := hJ146.2.2.getL (b := 46) (by omega) rfl
        refine v_alenJ (v := 31251) C 46 dX4_gather_51 (by omega) hE151 (by decide) ?_
        refine v_mmin C dX4_gather_52 lX4_30 mJ9_min_7cf53.2.2.1 mJ9_min_7cf53.2.1 mJ9_min_7cf53.1 ⟨by decide, Nat.le_of_ble_eq_true rfl⟩ ⟨Nat.zero_le _, Nat.zero_le _⟩ ?_
        refine v_top (fun x152 ex152 => ?_)
        have hx152 : x152.toInt ≤ (x149.toInt + 1) ∧ x152.toInt ≤ 31251 ∧ (x152.toInt = (x149.toInt + 1) ∨ x152.toInt = 31251) := by rw [ex152]; exact mmin_b hx150 (show (31251 : Int32).toInt = 31251 by decide)
        refine v_istore (lv' := [(0, .ref (ad 45)), (1, .int x), (2, .int y), (3, .ref (ad 6)), (4, .int z), (5, .int x152)]) C [1, 2, 3, 4, 5, 0] dX4_gather_55 (by decide) rfl ?_
        refine v_iconst (v := 0) C dX4_gather_57 (by decide) ?_
        refine v_istore (lv' := [(0, .ref (ad 45)), (1, .int x), (2, .int y), (3, .ref (ad 6)), (4, .int z), (5, .int x152), (6, .int 0)]) C [1, 2, 3, 4, 5, 6, 0] dX4_gather_58 (by decide) rfl ?_
        have LP153 : ∀ (t : Nat) (E155 : Nat → va_E) (y154 : Int32), J8 G ad k E0 E155 → ((0 : Int) ≤ y154.toInt ∧ y154.toInt ≤ 31251) → 31252 - y154.toInt < (t : Int) → V X G A 8 (QV X G A (98 + 9 * k) ad (fun E' => J8 G ad k E0 E')) (98 + 9 * k) ad 0 0 E155 60 [(0, .ref (ad 45)), (1, .int x), (2, .int y), (3, .ref (ad 6)), (4, .int z), (5, .int x152), (6, .int y154)] [] := by
          intro t159
          induction t159 with
          | zero => intro E155 y154 hJ156 hy154 hm158; exfalso; omega
          | succ t159 ih157 =>
            intro E155 y154 hJ156 hy154 hm158
            refine v_iload C 6 dX4_gather_60 rfl ?_
            refine v_iload C 5 dX4_gather_62 rfl ?_
            refine b_icmp_ge C 81 dX4_gather_64 (by decide) (rfl : Int32.toInt y154 = _) (rfl : Int32.toInt x152 = _) (fun c160 => ?_) (fun c160 => ?_)
            · refine v_aload_n C 0 dX4_gather_81 rfl rfl ?_
              refine v_iload_n C 1 dX4_gather_82 rfl rfl ?_
              obtain ⟨i165, hE165, hb165⟩ := hJ156.2.2.getO (b := 45) (by omega) rfl
              refine v_cVv C dX4_gather_83 lX4_36 mX4_mark 45 (by omega) hE165 (by decide) rfl (t_X4_mark l G ad hJ156 x) ⟨by decide, by decide⟩ rfl (Nat.le_of_ble_eq_true rfl) ⟨Nat.zero_le _, Nat.zero_le _⟩ (fun E162 hJ164 => ?_)
              refine v_aload_n C 0 dX4_gather_86 rfl rfl ?_
              refine v_iload_n C 2 dX4_gather_87 rfl rfl ?_
              obtain ⟨i170, hE170, hb170⟩ := hJ164.2.2.getO (b := 45) (by omega) rfl
              refine v_cVv C dX4_gather_88 lX4_36 mX4_mark 45 (by omega) hE170 (by decide) rfl (t_X4_mark l G ad hJ164 y) ⟨by decide, by decide⟩ rfl (Nat.le_of_ble_eq_true rfl) ⟨Nat.zero_le _, Nat.zero_le _⟩ (fun E167 hJ169 => ?_)
              refine v_iconst (v := 0) C dX4_gather_91 (by decide) ?_
              refine v_istore (lv' := [(0, .ref (ad 45)), (1, .int x), (2, .int y), (3, .ref (ad 6)), (4, .int z), (5, .int x152), (6, .int 0)]) C [1, 2, 3, 4, 5, 6, 0] dX4_gather_92 (by decide) rfl ?_
              have LP171 : ∀ (t : Nat) (E174 : Nat → va_E) (y172 : Int32), J8 G ad k E0 E174 → ((0 : Int) ≤ y172.toInt ∧ y172.toInt ≤ 5) → (y172.toInt ≤ (k : Int)) → 6 - y172.toInt < (t : Int) → V X G A 8 (QV X G A (98 + 9 * k) ad (fun E' => J8 G ad k E0 E')) (98 + 9 * k) ad 0 0 E174 94 [(0, .ref (ad 45)), (3, .ref (ad 6)), (4, .int z), (5, .int x152), (6, .int y172)] [] := by
                intro t178
                induction t178 with
                | zero => intro E174 y172 hJ175 hy172 hq173 hm177; exfalso; omega
                | succ t178 ih176 =>
                  intro E174 y172 hJ175 hy172 hq173 hm177
                  refine v_iload C 4 dX4_gather_94 rfl ?_
                  refine v_aload_n C 1 dX4_gather_96 rfl rfl ?_
                  obtain ⟨i179, hE179, hb179⟩ := hJ175.2.2.getO (b := 6) (by omega) rfl
                  refine v_geti (v := i179 1) C 6 dX4_gather_97 fX4_40 (by omega) hE179 rfl rfl ?_
                  have hi179_1 : (k : Int) ≤ (i179 1).toInt ∧ (i179 1).toInt ≤ (k : Int) := hb179 1
                  refine b_icmp_ge C 136 dX4_gather_100 (by decide) (rfl : Int32.toInt y172 = _) (rfl : Int32.toInt (i179 1) = _) (fun c180 => ?_) (fun c180 => ?_)
                  · refine v_aload_n C 0 dX4_gather_136 rfl rfl ?_
                    refine v_iload C 3 dX4_gather_137 rfl ?_
                    obtain ⟨i185, hE185, hb185⟩ := hJ175.2.2.getO (b := 45) (by omega) rfl
                    refine v_cVv C dX4_gather_139 lX4_57 mX4_listMarks 45 (by omega) hE185 (by decide) rfl (t_X4_listMarks l G ad hJ175 x152 (show (-2147483648 : Int) ≤ Int32.toInt x152 ∧ Int32.toInt x152 ≤ 31251 by omega)) ⟨by decide, by decide⟩ rfl (Nat.le_of_ble_eq_true rfl) ⟨Nat.zero_le _, Nat.zero_le _⟩ (fun E182 hJ184 => ?_)
                    exact v_vret C dX4_gather_142 rfl hJ184
                  · refine v_aload_n C 1 dX4_gather_103 rfl rfl ?_
                    refine v_iload C 4 dX4_gather_104 rfl ?_
                    refine v_cVr C dX4_gather_106 lX4_45 mX7_at 6 (by omega) hE179 (by decide) rfl (t_X7_at l G ad hJ175 y172) ⟨by decide, by decide⟩ rfl (Nat.le_of_ble_eq_true rfl) ⟨Nat.zero_le _, Nat.zero_le _⟩ (fun r186 hp187 => ?_)
                    rcases hp187 with ⟨hno188, rfl⟩ | ⟨i188x, hi188, hk188, rfl⟩
                    · refine v_astoreN (lv' := [(0, .ref (ad 45)), (3, .ref (ad 6)), (4, .int z), (5, .int x152), (6, .int y172), (7, .null)]) C [1, 2, 3, 4, 5, 0] dX4_gather_109 (by decide) rfl ?_
                      refine v_aloadN C 5 dX4_gather_111 rfl ?_
                      refine v_ifnullN C 130 dX4_gather_113 (by decide) ?_
                      obtain ⟨x189, ex189⟩ : ∃ y : Int32, y = y172 + 1 := ⟨_, rfl⟩
                      have hx189 : x189.toInt = (y172.toInt + 1) := by rw [ex189]; exact ti_add (rfl : Int32.toInt y172 = _) (show (1 : Int32).toInt = 1 by decide) (by omega) (by omega)
                      refine v_iinc (v := x189) (lv' := [(0, .ref (ad 45)), (3, .ref (ad 6)), (4, .int z), (5, .int x152), (6, .int x189), (7, .null)]) C 4 [1, 2, 3, 4, 0, 5] dX4_gather_130 rfl (ex189.symm) (by decide) rfl ?_
                      refine v_goto C 94 dX4_gather_133 (by decide) ?_
                      refine v_sub (lv' := [(0, .ref (ad 45)), (3, .ref (ad 6)), (4, .int z), (5, .int x152), (6, .int x189)]) [0, 1, 2, 3, 4] rfl ?_
                      exact ih176 _ x189 hJ175 (by have := hx189; omega) (by have := hx189; omega) (by have := hx189; omega)
                    · obtain ⟨b188, eb188⟩ : ∃ q : Nat, q = 98 + 9 * i188x := ⟨_, rfl⟩
                      rw [← eb188]
                      have hb188 : ZC k b188 := ⟨_, hk188, eb188⟩
                      have hb188n := hb188.n
                      refine v_astore (lv' := [(0, .ref (ad 45)), (3, .ref (ad 6)), (4, .int z), (5, .int x152), (6, .int y172), (7, .ref (ad b188))]) C [1, 2, 3, 4, 5, 0] dX4_gather_109 (by decide) rfl ?_
                      refine v_aload C 5 dX4_gather_111 rfl ?_
                      refine v_ifnull C dX4_gather_113 ?_
                      refine v_aload_n C 0 dX4_gather_116 rfl rfl ?_
                      refine v_aload C 5 dX4_gather_117 rfl ?_
                      obtain ⟨i194, hE194, hb194⟩ := hJ175.2.2.getO (b := 45) (by omega) rfl
                      refine v_cVv C dX4_gather_119 lX4_49 mX4_markChanges 45 (by omega) hE194 (by decide) rfl (t_X4_markChanges l G ad hJ175 b188 hb188) ⟨by decide, by decide⟩ rfl (Nat.le_of_ble_eq_true rfl) ⟨Nat.zero_le _, Nat.zero_le _⟩ (fun E191 hJ193 => ?_)
                      refine v_aload_n C 0 dX4_gather_122 rfl rfl ?_
                      refine v_aload C 5 dX4_gather_123 rfl ?_
                      refine v_iload C 2 dX4_gather_125 rfl ?_
                      obtain ⟨i199, hE199, hb199⟩ := hJ193.2.2.getO (b := 45) (by omega) rfl
                      refine v_cVv C dX4_gather_127 lX4_53 mX4_markDays 45 (by omega) hE199 (by decide) rfl (t_X4_markDays l G ad hJ193 b188 hb188 z) ⟨by decide, by decide⟩ rfl (Nat.le_of_ble_eq_true rfl) ⟨Nat.zero_le _, Nat.zero_le _⟩ (fun E196 hJ198 => ?_)
                      obtain ⟨x200, ex200⟩ : ∃ y : Int32, y = y172 + 1 := ⟨_, rfl⟩
                      have hx200 : x200.toInt = (y172.toInt + 1) := by rw [ex200]; exact ti_add (rfl : Int32.toInt y172 = _) (show (1 : Int32).toInt = 1 by decide) (by omega) (by omega)
                      refine v_iinc (v := x200) (lv' := [(0, .ref (ad 45)), (3, .ref (ad 6)), (4, .int z), (5, .int x152), (6, .int x200), (7, .ref (ad b188))]) C 4 [1, 2, 3, 4, 0, 5] dX4_gather_130 rfl (ex200.symm) (by decide) rfl ?_
                      refine v_goto C 94 dX4_gather_133 (by decide) ?_
                      refine v_sub (lv' := [(0, .ref (ad 45)), (3, .ref (ad 6)), (4, .int z), (5, .int x152), (6, .int x200)]) [0, 1, 2, 3, 4] rfl ?_
                      exact ih176 _ x200 hJ198 (by have := hx200; omega) (by have := hx200; omega) (by have := hx200; omega)
              refine v_sub (lv' := [(0, .ref (ad 45)), (3, .ref (ad 6)), (4, .int z), (5, .int x152), (6, .int 0)]) [0, 3, 4, 5, 6] rfl ?_
              exact LP171 100000 _ 0 hJ169 (by have := (show (0 : Int32).toInt = 0 by decide); omega) (by have := (show (0 : Int32).toInt = 0 by decide); omega) (by have := (show (0 : Int32).toInt = 0 by decide); omega)
            · refine v_aload_n C 0 dX4_gather_67 rfl rfl ?_
              obtain ⟨i201, hE201, hb201⟩ := hJ156.2.2.getO (b := 45) (by omega) rfl
              refine v_getr C 45 dX4_gather_68 fX4_9 (by omega) hE201 rfl rfl ?_
              refine v_iload C 6 dX4_gather_71 rfl ?_
              refine v_lconst (v := 0) C dX4_gather_73 (by decide) ?_
              obtain ⟨f202, hE202⟩ := hJ156.2.2.getL (b := 46) (by omega) rfl
              refine v_jast C 46 dX4_gather_74 (by omega) hE202 (ti_in (rfl : Int32.toInt y154 = _) (by omega) (by omega)) (fun E203 hE203_46 oE203 => ?_)
              rw [ti_cl (rfl : Int32.toInt y154 = _)] at hE203_46
              have hE203_45 := (oE203 45 (by decide)).trans hE201
              have hJ204 := hJ156.with (hJ156.2.2.setL rfl (by unfold P8; omega) hE203_46 oE203)
              obtain ⟨x205, ex205⟩ : ∃ y : Int32, y = y154 + 1 := ⟨_, rfl⟩
              have hx205 : x205.toInt = (y154.toInt + 1) := by rw [ex205]; exact ti_add (rfl : Int32.toInt y154 = _) (show (1 : Int32).toInt = 1 by decide) (by omega) (by omega)
              refine v_iinc (v := x205) (lv' := [(0, .ref (ad 45)), (1, .int x), (2, .int y), (3, .ref (ad 6)), (4, .int z), (5, .int x152), (6, .int x205)]) C 6 [1, 2, 3, 4, 5, 6, 0] dX4_gather_75 rfl (ex205.symm) (by decide) rfl ?_
              refine v_goto C 60 dX4_gather_78 (by decide) ?_
              exact ih157 _ x205 hJ204 (by have := hx205; omega) (by have := hx205; omega)
        exact LP153 100000 _ 0 hJ146 (by have := (show (0 : Int32).toInt = 0 by decide); omega) (by have := (show (0 : Int32).toInt = 0 by decide); omega)
      · exact v_vret C dX4_gather_23 rfl hJ

