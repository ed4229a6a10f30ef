def CalW (G : Gl) (ad : Nat → Nat) (E : Nat → va_E) (ic md : Nat → Int32) : Prop := ∃ ms ld ys : Nat → Int32, E 1 = ob 0 (rfs ad [2, 3, 4, 5]) ic ∧ E 2 = aI G 12 md ∧ E 3 = aI G 12 ms ∧ E 4 = aI G 100 ld ∧ E 5 = aI G 101 ys ∧ CalP ic md ∧ CalF ic md ms ld ys
theorem CalP_up {ic md : Nat → Int32} (h : CalP ic md) {k : Nat} {d : Int32} (h1 : 1 ≤ d.toInt) (h2 : d.toInt ≤ 40) : CalP ic (upd md k d) := by
  refine ⟨fun j hj => ?_, h.2⟩
  by_cases q : j = k
  · subst q; rw [pk_us]; exact ⟨h1, h2⟩
  · rw [pk_un q]; exact h.1 j hj

set_option maxRecDepth 20000 in
theorem c_month (l : Launch) (G : Gl) (n : Nat) (ad : Nat → Nat) (E : Nat → va_E) (hn : 6 ≤ n) {ic md ms ld ys : Nat → Int32} (hE1 : E 1 = ob 0 (rfs ad [2, 3, 4, 5]) ic) (hE2 : E 2 = aI G 12 md) (hE3 : E 3 = aI G 12 ms) (hE4 : E 4 = aI G 100 ld) (hE5 : E 5 = aI G 101 ys) (hP : CalP ic md) (hF : CalF ic md ms ld ys) (hN : 52 ≤ n) {io iz : Nat → Int32} (hE0 : E 0 = ob 8 (rfs ad [1, 6, 8, 48, 45, 51]) io) (hE6 : E 6 = ob 7 (rfs ad [7]) iz) (m : Int32) (d : Int32)  : CtI l G yX8_month cX8_month 4 .int 4 88 n ad E [.ref (ad 0), .int m, .int d] (fun r E' => (¬ (0 ≤ m.toInt ∧ m.toInt < 12 ∧ 1 ≤ d.toInt ∧ d.toInt ≤ 40) ∧ r.toInt = -1 ∧ E = E') ∨ ((0 ≤ m.toInt ∧ m.toInt < 12 ∧ 1 ≤ d.toInt ∧ d.toInt ≤ 40) ∧ 0 < (iz 1).toInt ∧ r.toInt = -3 ∧ E = E') ∨ ((0 ≤ m.toInt ∧ m.toInt < 12 ∧ 1 ≤ d.toInt ∧ d.toInt ≤ 40) ∧ ¬ 0 < (iz 1).toInt ∧ r = md (Int.toNat m.toInt) ∧ CalW G ad E' ic (upd md (Int.toNat m.toInt) d) ∧ ∀ j, j ≠ 2 → j ≠ 3 → j ≠ 4 → j ≠ 5 → E' j = E j)) := by
  refine CtI.of (by decide) (Nat.le_of_ble_eq_true rfl) (fun X A C => ?_)
  refine v_sub (lv' := [(0, .ref (ad 0)), (1, .int m), (2, .int d)]) [0, 1, 2] rfl ?_
  refine v_iload_n C 1 dX8_month_0 rfl rfl ?_
  refine v_cSp C dX8_month_1 lX8_60 mX8_isMonth (c_isMonth l G n ad _ m) ⟨by decide, by decide⟩ rfl (Nat.le_of_ble_eq_true rfl) ⟨Nat.zero_le _, Nat.zero_le _⟩ (fun r2 hp1 => ?_)
  rcases hp1 with ⟨rfl, hp1⟩ | ⟨rfl, hp1⟩
  · refine b_if_eq C 18 dX8_month_4 (by decide) (show (1 : Int32).toInt = 1 by decide) (fun c3 => absurd c3 (by decide)) (fun c3 => ?_)
    refine v_iload_n C 2 dX8_month_7 rfl rfl ?_
    refine v_iconst (v := 1) C dX8_month_8 (by decide) ?_
    refine b_icmp_lt C 18 dX8_month_9 (by decide) (rfl : Int32.toInt d = _) (show (1 : Int32).toInt = 1 by decide) (fun c4 => ?_) (fun c4 => ?_)
    · refine v_iconst (v := (-1)) C dX8_month_18 (by decide) ?_
      exact v_ret C dX8_month_19 rfl rfl (Or.inl ⟨by omega, by decide, rfl⟩)
    · refine v_iload_n C 2 dX8_month_12 rfl rfl ?_
      refine v_bipush (v := 40) C dX8_month_13 (by decide) ?_
      refine b_icmp_le C 20 dX8_month_15 (by decide) (rfl : Int32.toInt d = _) (show (40 : Int32).toInt = 40 by decide) (fun c5 => ?_) (fun c5 => ?_)
      · refine v_aload_n C 0 dX8_month_20 rfl rfl ?_
        refine v_getr C 0 dX8_month_21 fX8_19 (by omega) hE0 rfl rfl ?_
        refine v_geti (v := iz 1) C 6 dX8_month_24 fX8_64 (by omega) hE6 rfl rfl ?_
        refine b_if_le C 33 dX8_month_27 (by decide) (rfl : Int32.toInt (iz 1) = _) (fun c6 => ?_) (fun c6 => ?_)
        · refine v_aload_n C 0 dX8_month_33 rfl rfl ?_
          refine v_getr C 0 dX8_month_34 fX8_12 (by omega) hE0 rfl rfl ?_
          refine v_getr C 1 dX8_month_37 fX8_67 (by omega) hE1 rfl rfl ?_
          refine v_iload_n C 1 dX8_month_40 rfl rfl ?_
          refine v_ald (v := md (Int.toNat m.toInt)) C 2 dX8_month_41 (by omega) hE2 (ti_in (rfl : Int32.toInt m = _) (by omega) (by omega)) (by rw [ti_cl (rfl : Int32.toInt m = _)]) ?_
          refine v_istore_n (lv' := [(0, .ref (ad 0)), (1, .int m), (2, .int d), (3, .int (md (Int.toNat m.toInt)))]) C [1, 2, 3, 0] dX8_month_42 rfl (by decide) rfl ?_
          refine v_aload_n C 0 dX8_month_43 rfl rfl ?_
          refine v_getr C 0 dX8_month_44 fX8_12 (by omega) hE0 rfl rfl ?_
          refine v_getr C 1 dX8_month_47 fX8_67 (by omega) hE1 rfl rfl ?_
          refine v_iload_n C 1 dX8_month_50 rfl rfl ?_
          refine v_iload_n C 2 dX8_month_51 rfl rfl ?_
          refine v_ast C 2 dX8_month_52 (by omega) hE2 (ti_in (rfl : Int32.toInt m = _) (by omega) (by omega)) (fun E7 hE7_2 oE7 => ?_)
          rw [ti_cl (rfl : Int32.toInt m = _)] at hE7_2
          have hE7_1 := (oE7 1 (by decide)).trans hE1
          have hE7_3 := (oE7 3 (by decide)).trans hE3
          have hE7_4 := (oE7 4 (by decide)).trans hE4
          have hE7_5 := (oE7 5 (by decide)).trans hE5
          have hE7_0 := (oE7 0 (by decide)).trans hE0
          have hE7_6 := (oE7 6 (by decide)).trans hE6
          refine v_aload_n C 0 dX8_month_53 rfl rfl ?_
          refine v_getr C 0 dX8_month_54 fX8_12 (by omega) hE7_0 rfl rfl ?_
          refine v_cVv C dX8_month_57 lX8_71 mX0_reckon 1 (by omega) hE7_1 (by decide) rfl (c_reckon l G n ad _ hn hE7_1 hE7_2 hE7_3 hE7_4 hE7_5 (CalP_up hP (by omega) (by omega)) (hF.2.2 0 (by decide))) ⟨by decide, by decide⟩ rfl (Nat.le_of_ble_eq_true rfl) ⟨Nat.zero_le _, Nat.zero_le _⟩ (fun E8 hq9 => ?_)
          obtain ⟨ms2, ld2, ys2, hR3, hR4, hR5, hRF, hRo⟩ := hq9
          have hE8_0 := (hRo 0 (by decide) (by decide) (by decide)).trans hE7_0
          have hE8_1 := (hRo 1 (by decide) (by decide) (by decide)).trans hE7_1
          have hE8_2 := (hRo 2 (by decide) (by decide) (by decide)).trans hE7_2
          have hE8_6 := (hRo 6 (by decide) (by decide) (by decide)).trans hE7_6
          refine v_iload_n C 3 dX8_month_60 rfl rfl ?_
          exact v_ret C dX8_month_61 rfl rfl (Or.inr (Or.inr ⟨by omega, by omega, rfl, ⟨ms2, ld2, ys2, hE8_1, hE8_2, hR3, hR4, hR5, CalP_up hP (by omega) (by omega), hRF⟩, fun j h2 h3 h4 h5 => (hRo j h3 h4 h5).trans (oE7 j h2)⟩))
        · refine v_bipush (v := (-3)) C dX8_month_30 (by decide) ?_
          exact v_ret C dX8_month_32 rfl rfl (Or.inr (Or.inl ⟨by omega, by omega, by decide, rfl⟩))
      · refine v_iconst (v := (-1)) C dX8_month_18 (by decide) ?_
        exact v_ret C dX8_month_19 rfl rfl (Or.inl ⟨by omega, by decide, rfl⟩)
  · refine b_if_eq C 18 dX8_month_4 (by decide) (show (0 : Int32).toInt = 0 by decide) (fun c10 => ?_) (fun c10 => absurd c10 (by decide))
    refine v_iconst (v := (-1)) C dX8_month_18 (by decide) ?_
    exact v_ret C dX8_month_19 rfl rfl (Or.inl ⟨by omega, by decide, rfl⟩)

set_option maxRecDepth 20000 in
theorem c_leap (l : Launch) (G : Gl) (n : Nat) (ad : Nat → Nat) (E : Nat → va_E) (hn : 6 ≤ n) {ic md ms ld ys : Nat → Int32} (hE1 : E 1 = ob 0 (rfs ad [2, 3, 4, 5]) ic) (hE2 : E 2 = aI G 12 md) (hE3 : E 3 = aI G 12 ms) (hE4 : E 4 = aI G 100 ld) (hE5 : E 5 = aI G 101 ys) (hP : CalP ic md) (hF : CalF ic md ms ld ys) (hN : 52 ≤ n) {io iz : Nat → Int32} (hE0 : E 0 = ob 8 (rfs ad [1, 6, 8, 48, 45, 51]) io) (hE6 : E 6 = ob 7 (rfs ad [7]) iz) (a : Int32) (b : Int32) (m : Int32)  : CtI l G yX8_leap cX8_leap 4 .int 4 88 n ad E [.ref (ad 0), .int a, .int b, .int m] (fun r E' => (¬ (2 ≤ a.toInt ∧ a.toInt ≤ 50 ∧ 2 ≤ b.toInt ∧ b.toInt ≤ 100 ∧ 0 ≤ m.toInt ∧ m.toInt < 12) ∧ r.toInt = -1 ∧ E = E') ∨ ((2 ≤ a.toInt ∧ a.toInt ≤ 50 ∧ 2 ≤ b.toInt ∧ b.toInt ≤ 100 ∧ 0 ≤ m.toInt ∧ m.toInt < 12) ∧ 0 < (iz 1).toInt ∧ r.toInt = -3 ∧ E = E') ∨ ((2 ≤ a.toInt ∧ a.toInt ≤ 50 ∧ 2 ≤ b.toInt ∧ b.toInt ≤ 100 ∧ 0 ≤ m.toInt ∧ m.toInt < 12) ∧ ¬ 0 < (iz 1).toInt ∧ r.toInt = 1 ∧ CalW G ad E' (va_up (va_up (va_up ic 4 a) 5 b) 6 m) md ∧ ∀ j, j ≠ 1 → j ≠ 3 → j ≠ 4 → j ≠ 5 → E' j = E j)) := by
  refine CtI.of (by decide) (Nat.le_of_ble_eq_true rfl) (fun X A C => ?_)
  refine v_sub (lv' := [(0, .ref (ad 0)), (1, .int a), (2, .int b), (3, .int m)]) [0, 1, 2, 3] rfl ?_
  refine v_iload_n C 1 dX8_leap_0 rfl rfl ?_
  refine v_iconst (v := 2) C dX8_leap_1 (by decide) ?_
  refine b_icmp_lt C 29 dX8_leap_2 (by decide) (rfl : Int32.toInt a = _) (show (2 : Int32).toInt = 2 by decide) (fun c1 => ?_) (fun c1 => ?_)
  · refine v_iconst (v := (-1)) C dX8_leap_29 (by decide) ?_
    exact v_ret C dX8_leap_30 rfl rfl (Or.inl ⟨by omega, by decide, rfl⟩)
  · refine v_iload_n C 1 dX8_leap_5 rfl rfl ?_
    refine v_bipush (v := 50) C dX8_leap_6 (by decide) ?_
    refine b_icmp_gt C 29 dX8_leap_8 (by decide) (rfl : Int32.toInt a = _) (show (50 : Int32).toInt = 50 by decide) (fun c2 => ?_) (fun c2 => ?_)
    · refine v_iconst (v := (-1)) C dX8_leap_29 (by decide) ?_
      exact v_ret C dX8_leap_30 rfl rfl (Or.inl ⟨by omega, by decide, rfl⟩)
    · refine v_iload_n C 2 dX8_leap_11 rfl rfl ?_
      refine v_iconst (v := 2) C dX8_leap_12 (by decide) ?_
      refine b_icmp_lt C 29 dX8_leap_13 (by decide) (rfl : Int32.toInt b = _) (show (2 : Int32).toInt = 2 by decide) (fun c3 => ?_) (fun c3 => ?_)
      · refine v_iconst (v := (-1)) C dX8_leap_29 (by decide) ?_
        exact v_ret C dX8_leap_30 rfl rfl (Or.inl ⟨by omega, by decide, rfl⟩)
      · refine v_iload_n C 2 dX8_leap_16 rfl rfl ?_
        refine v_bipush (v := 100) C dX8_leap_17 (by decide) ?_
        refine b_icmp_gt C 29 dX8_leap_19 (by decide) (rfl : Int32.toInt b = _) (show (100 : Int32).toInt = 100 by decide) (fun c4 => ?_) (fun c4 => ?_)
        · refine v_iconst (v := (-1)) C dX8_leap_29 (by decide) ?_
          exact v_ret C dX8_leap_30 rfl rfl (Or.inl ⟨by omega, by decide, rfl⟩)
        · refine v_iload_n C 3 dX8_leap_22 rfl rfl ?_
          refine v_cSp C dX8_leap_23 lX8_60 mX8_isMonth (c_isMonth l G n ad _ m) ⟨by decide, by decide⟩ rfl (Nat.le_of_ble_eq_true rfl) ⟨Nat.zero_le _, Nat.zero_le _⟩ (fun r6 hp5 => ?_)
          rcases hp5 with ⟨rfl, hp5⟩ | ⟨rfl, hp5⟩
          · refine b_if_ne C 31 dX8_leap_26 (by decide) (show (1 : Int32).toInt = 1 by decide) (fun c7 => ?_) (fun c7 => absurd c7 (by decide))
            refine v_aload_n C 0 dX8_leap_31 rfl rfl ?_
            refine v_getr C 0 dX8_leap_32 fX8_19 (by omega) hE0 rfl rfl ?_
            refine v_geti (v := iz 1) C 6 dX8_leap_35 fX8_64 (by omega) hE6 rfl rfl ?_
            refine b_if_le C 44 dX8_leap_38 (by decide) (rfl : Int32.toInt (iz 1) = _) (fun c8 => ?_) (fun c8 => ?_)
            · refine v_aload_n C 0 dX8_leap_44 rfl rfl ?_
              refine v_getr C 0 dX8_leap_45 fX8_12 (by omega) hE0 rfl rfl ?_
              refine v_iload_n C 1 dX8_leap_48 rfl rfl ?_
              refine v_puti C 1 dX8_leap_49 fX8_74 (by omega) hE1 rfl rfl rfl rfl (fun E9 hE9_1 oE9 => ?_)
              have hE9_2 := (oE9 2 (by decide)).trans hE2
              have hE9_3 := (oE9 3 (by decide)).trans hE3
              have hE9_4 := (oE9 4 (by decide)).trans hE4
              have hE9_5 := (oE9 5 (by decide)).trans hE5
              have hE9_0 := (oE9 0 (by decide)).trans hE0
              have hE9_6 := (oE9 6 (by decide)).trans hE6
              refine v_aload_n C 0 dX8_leap_52 rfl rfl ?_
              refine v_getr C 0 dX8_leap_53 fX8_12 (by omega) hE9_0 rfl rfl ?_
              refine v_iload_n C 2 dX8_leap_56 rfl rfl ?_
              refine v_puti C 1 dX8_leap_57 fX8_77 (by omega) hE9_1 rfl rfl rfl rfl (fun E10 hE10_1 oE10 => ?_)
              have hE10_2 := (oE10 2 (by decide)).trans hE9_2
              have hE10_3 := (oE10 3 (by decide)).trans hE9_3
              have hE10_4 := (oE10 4 (by decide)).trans hE9_4
              have hE10_5 := (oE10 5 (by decide)).trans hE9_5
              have hE10_0 := (oE10 0 (by decide)).trans hE9_0
              have hE10_6 := (oE10 6 (by decide)).trans hE9_6
              refine v_aload_n C 0 dX8_leap_60 rfl rfl ?_
              refine v_getr C 0 dX8_leap_61 fX8_12 (by omega) hE10_0 rfl rfl ?_
              refine v_iload_n C 3 dX8_leap_64 rfl rfl ?_
              refine v_puti C 1 dX8_leap_65 fX8_80 (by omega) hE10_1 rfl rfl rfl rfl (fun E11 hE11_1 oE11 => ?_)
              have hE11_2 := (oE11 2 (by decide)).trans hE10_2
              have hE11_3 := (oE11 3 (by decide)).trans hE10_3
              have hE11_4 := (oE11 4 (by decide)).trans hE10_4
              have hE11_5 := (oE11 5 (by decide)).trans hE10_5
              have hE11_0 := (oE11 0 (by decide)).trans hE10_0
              have hE11_6 := (oE11 6 (by decide)).trans hE10_6
              refine v_aload_n C 0 dX8_leap_68 rfl rfl ?_
              refine v_getr C 0 dX8_leap_69 fX8_12 (by omega) hE11_0 rfl rfl ?_
              refine v_cVv C dX8_leap_72 lX8_71 mX0_reckon 1 (by omega) hE11_1 (by decide) rfl (c_reckon l G n ad _ hn hE11_1 hE11_2 hE11_3 hE11_4 hE11_5 (show CalP (va_up (va_up (va_up ic 4 a) 5 b) 6 m) md from ⟨hP.1, show 2 ≤ a.toInt ∧ a.toInt ≤ 50 from ⟨by omega, by omega⟩, show 2 ≤ b.toInt ∧ b.toInt ≤ 100 from ⟨by omega, by omega⟩, show 0 ≤ m.toInt ∧ m.toInt < 12 from ⟨by omega, by omega⟩, hP.2.2.2.2.1, hP.2.2.2.2.2⟩) (hF.2.2 0 (by decide))) ⟨by decide, by decide⟩ rfl (Nat.le_of_ble_eq_true rfl) ⟨Nat.zero_le _, Nat.zero_le _⟩ (fun E12 hq13 => ?_)
              obtain ⟨ms2, ld2, ys2, hR3, hR4, hR5, hRF, hRo⟩ := hq13
              have hE12_0 := (hRo 0 (by decide) (by decide) (by decide)).trans hE11_0
              have hE12_1 := (hRo 1 (by decide) (by decide) (by decide)).trans hE11_1
              have hE12_2 := (hRo 2 (by decide) (by decide) (by decide)).trans hE11_2
              have hE12_6 := (hRo 6 (by decide) (by decide) (by decide)).trans hE11_6
              refine v_iconst (v := 1) C dX8_leap_75 (by decide) ?_
              exact v_ret C dX8_leap_76 rfl rfl (Or.inr (Or.inr ⟨by omega, by omega, by decide, ⟨ms2, ld2, ys2, hE12_1, hE12_2, hR3, hR4, hR5, (show CalP (va_up (va_up (va_up ic 4 a) 5 b) 6 m) md from ⟨hP.1, show 2 ≤ a.toInt ∧ a.toInt ≤ 50 from ⟨by omega, by omega⟩, show 2 ≤ b.toInt ∧ b.toInt ≤ 100 from ⟨by omega, by omega⟩, show 0 ≤ m.toInt ∧ m.toInt < 12 from ⟨by omega, by omega⟩, hP.2.2.2.2.1, hP.2.2.2.2.2⟩), hRF⟩, fun j h1 h3 h4 h5 => (hRo j h3 h4 h5).trans ((oE11 j h1).trans ((oE10 j h1).trans (oE9 j h1)))⟩))
            · refine v_bipush (v := (-3)) C dX8_leap_41 (by decide) ?_
              exact v_ret C dX8_leap_43 rfl rfl (Or.inr (Or.inl ⟨by omega, by omega, by decide, rfl⟩))
          · refine b_if_ne C 31 dX8_leap_26 (by decide) (show (0 : Int32).toInt = 0 by decide) (fun c14 => absurd c14 (by decide)) (fun c14 => ?_)
            refine v_iconst (v := (-1)) C dX8_leap_29 (by decide) ?_
            exact v_ret C dX8_leap_30 rfl rfl (Or.inl ⟨by omega, by decide, rfl⟩)

set_option maxRecDepth 20000 in
theorem c_week (l : Launch) (G : Gl) (n : Nat) (ad : Nat → Nat) (E : Nat → va_E) (hn : 6 ≤ n) {ic md ms ld ys : Nat → Int32} (hE1 : E 1 = ob 0 (rfs ad [2, 3, 4, 5]) ic) (hE2 : E 2 = aI G 12 md) (hE3 : E 3 = aI G 12 ms) (hE4 : E 4 = aI G 100 ld) (hE5 : E 5 = aI G 101 ys) (hP : CalP ic md) (hF : CalF ic md ms ld ys) (hN : 52 ≤ n) {io iz : Nat → Int32} (hE0 : E 0 = ob 8 (rfs ad [1, 6, 8, 48, 45, 51]) io) (hE6 : E 6 = ob 7 (rfs ad [7]) iz) (w : Int32) (f : Int32)  : CtI l G yX8_week cX8_week 3 .int 0 0 n ad E [.ref (ad 0), .int w, .int f] (fun r E' => (¬ (2 ≤ w.toInt ∧ w.toInt ≤ 10 ∧ 0 ≤ f.toInt ∧ f.toInt ≤ 9) ∧ r.toInt = -1 ∧ E = E') ∨ ((2 ≤ w.toInt ∧ w.toInt ≤ 10 ∧ 0 ≤ f.toInt ∧ f.toInt ≤ 9) ∧ 0 < (iz 1).toInt ∧ r.toInt = -3 ∧ E = E') ∨ ((2 ≤ w.toInt ∧ w.toInt ≤ 10 ∧ 0 ≤ f.toInt ∧ f.toInt ≤ 9) ∧ ¬ 0 < (iz 1).toInt ∧ r.toInt = 1 ∧ CalW G ad E' (va_up (va_up ic 7 w) 8 f) md ∧ ∀ j, j ≠ 1 → E' j = E j)) := by
  refine CtI.of (by decide) (Nat.le_of_ble_eq_true rfl) (fun X A C => ?_)
  refine v_sub (lv' := [(0, .ref (ad 0)), (1, .int w), (2, .int f)]) [0, 1, 2] rfl ?_
  refine v_iload_n C 1 dX8_week_0 rfl rfl ?_
  refine v_iconst (v := 2) C dX8_week_1 (by decide) ?_
  refine b_icmp_lt C 21 dX8_week_2 (by decide) (rfl : Int32.toInt w = _) (show (2 : Int32).toInt = 2 by decide) (fun c1 => ?_) (fun c1 => ?_)
  · refine v_iconst (v := (-1)) C dX8_week_21 (by decide) ?_
    exact v_ret C dX8_week_22 rfl rfl (Or.inl ⟨by omega, by decide, rfl⟩)
  · refine v_iload_n C 1 dX8_week_5 rfl rfl ?_
    refine v_bipush (v := 10) C dX8_week_6 (by decide) ?_
    refine b_icmp_gt C 21 dX8_week_8 (by decide) (rfl : Int32.toInt w = _) (show (10 : Int32).toInt = 10 by decide) (fun c2 => ?_) (fun c2 => ?_)
    · refine v_iconst (v := (-1)) C dX8_week_21 (by decide) ?_
      exact v_ret C dX8_week_22 rfl rfl (Or.inl ⟨by omega, by decide, rfl⟩)
    · refine v_iload_n C 2 dX8_week_11 rfl rfl ?_
      refine b_if_lt C 21 dX8_week_12 (by decide) (rfl : Int32.toInt f = _) (fun c3 => ?_) (fun c3 => ?_)
      · refine v_iconst (v := (-1)) C dX8_week_21 (by decide) ?_
        exact v_ret C dX8_week_22 rfl rfl (Or.inl ⟨by omega, by decide, rfl⟩)
      · refine v_iload_n C 2 dX8_week_15 rfl rfl ?_
        refine v_bipush (v := 9) C dX8_week_16 (by decide) ?_
        refine b_icmp_le C 23 dX8_week_18 (by decide) (rfl : Int32.toInt f = _) (show (9 : Int32).toInt = 9 by decide) (fun c4 => ?_) (fun c4 => ?_)
        · refine v_aload_n C 0 dX8_week_23 rfl rfl ?_
          refine v_getr C 0 dX8_week_24 fX8_19 (by omega) hE0 rfl rfl ?_
          refine v_geti (v := iz 1) C 6 dX8_week_27 fX8_64 (by omega) hE6 rfl rfl ?_
          refine b_if_le C 36 dX8_week_30 (by decide) (rfl : Int32.toInt (iz 1) = _) (fun c5 => ?_) (fun c5 => ?_)
          · refine v_aload_n C 0 dX8_week_36 rfl rfl ?_
            refine v_getr C 0 dX8_week_37 fX8_12 (by omega) hE0 rfl rfl ?_
            refine v_iload_n C 1 dX8_week_40 rfl rfl ?_
            refine v_puti C 1 dX8_week_41 fX8_83 (by omega) hE1 rfl rfl rfl rfl (fun E6 hE6_1 oE6 => ?_)
            have hE6_2 := (oE6 2 (by decide)).trans hE2
            have hE6_3 := (oE6 3 (by decide)).trans hE3
            have hE6_4 := (oE6 4 (by decide)).trans hE4
            have hE6_5 := (oE6 5 (by decide)).trans hE5
            have hE6_0 := (oE6 0 (by decide)).trans hE0
            have hE6_6 := (oE6 6 (by decide)).trans hE6
            refine v_aload_n C 0 dX8_week_44 rfl rfl ?_
            refine v_getr C 0 dX8_week_45 fX8_12 (by omega) hE6_0 rfl rfl ?_
            refine v_iload_n C 2 dX8_week_48 rfl rfl ?_
            refine v_puti C 1 dX8_week_49 fX8_86 (by omega) hE6_1 rfl rfl rfl rfl (fun E7 hE7_1 oE7 => ?_)
            have hE7_2 := (oE7 2 (by decide)).trans hE6_2
            have hE7_3 := (oE7 3 (by decide)).trans hE6_3
            have hE7_4 := (oE7 4 (by decide)).trans hE6_4
            have hE7_5 := (oE7 5 (by decide)).trans hE6_5
            have hE7_0 := (oE7 0 (by decide)).trans hE6_0
            have hE7_6 := (oE7 6 (by decide)).trans hE6_6
            refine v_iconst (v := 1) C dX8_week_52 (by decide) ?_
            exact v_ret C dX8_week_53 rfl rfl (Or.inr (Or.inr ⟨by omega, by omega, by decide, ⟨ms, ld, ys, hE7_1, hE7_2, hE7_3, hE7_4, hE7_5, ⟨hP.1, hP.2.1, hP.2.2.1, hP.2.2.2.1, show 2 ≤ w.toInt ∧ w.toInt ≤ 10 from ⟨by omega, by omega⟩, show 0 ≤ f.toInt ∧ f.toInt ≤ 9 from ⟨by omega, by omega⟩⟩, hF⟩, fun j h1 => (oE7 j h1).trans (oE6 j h1)⟩))
          · refine v_bipush (v := (-3)) C dX8_week_33 (by decide) ?_
            exact v_ret C dX8_week_35 rfl rfl (Or.inr (Or.inl ⟨by omega, by omega, by decide, rfl⟩))
        · refine v_iconst (v := (-1)) C dX8_week_21 (by decide) ?_
          exact v_ret C dX8_week_22 rfl rfl (Or.inl ⟨by omega, by decide, rfl⟩)

set_option maxRecDepth 20000 in
theorem c_forget (l : Launch) (G : Gl) (n : Nat) (ad : Nat → Nat) (E : Nat → va_E) (hq : 48 ≤ n) {iq : Nat → Int32} (hE45 : E 45 = ob 4 (rfs ad [46, 47]) iq)  : CtV l G yX4_forget cX4_forget 1 0 0 n ad E [.ref (ad 45)] (fun E' => E' 45 = ob 4 (rfs ad [46, 47]) (va_up iq 5 0) ∧ ∀ j, j ≠ 45 → E' j = E j) := by
  refine CtV.of (by decide) (Nat.le_of_ble_eq_true rfl) (fun X A C => ?_)
  refine v_sub (lv' := [(0, .ref (ad 45))]) [0] rfl ?_
  refine v_aload_n C 0 dX4_forget_0 rfl rfl ?_
  refine v_iconst (v := 0) C dX4_forget_1 (by decide) ?_
  refine v_puti C 45 dX4_forget_2 fX4_19 (by omega) hE45 rfl rfl rfl rfl (fun E1 hE1_45 oE1 => ?_)
  exact v_vret C dX4_forget_5 rfl ⟨hE1_45, oE1⟩

set_option maxRecDepth 20000 in
theorem c_today (l : Launch) (G : Gl) (n : Nat) (ad : Nat → Nat) (E : Nat → va_E) (hN : 52 ≤ n) {io : Nat → Int32} (hE0 : E 0 = ob 8 (rfs ad [1, 6, 8, 48, 45, 51]) io) (d : Int32)  : CtI l G yX8_today cX8_today 3 .int 0 0 n ad E [.ref (ad 0), .int d] (fun r E' => (¬ ((io 6).toInt ≤ d.toInt ∧ d.toInt ≤ 99999) ∧ r.toInt = -1 ∧ E = E') ∨ (((io 6).toInt ≤ d.toInt ∧ d.toInt ≤ 99999) ∧ r = io 6 ∧ E' 0 = ob 8 (rfs ad [1, 6, 8, 48, 45, 51]) (va_up io 6 d) ∧ ∀ j, j ≠ 0 → E' j = E j)) := by
  refine CtI.of (by decide) (Nat.le_of_ble_eq_true rfl) (fun X A C => ?_)
  refine v_sub (lv' := [(0, .ref (ad 0)), (1, .int d)]) [0, 1] rfl ?_
  refine v_iload_n C 1 dX8_today_0 rfl rfl ?_
  refine v_aload_n C 0 dX8_today_1 rfl rfl ?_
  refine v_geti (v := io 6) C 0 dX8_today_2 fX8_144 (by omega) hE0 rfl rfl ?_
  refine b_icmp_lt C 14 dX8_today_5 (by decide) (rfl : Int32.toInt d = _) (rfl : Int32.toInt (io 6) = _) (fun c1 => ?_) (fun c1 => ?_)
  · refine v_iconst (v := (-1)) C dX8_today_14 (by decide) ?_
    exact v_ret C dX8_today_15 rfl rfl (Or.inl ⟨by omega, by decide, rfl⟩)
  · refine v_iload_n C 1 dX8_today_8 rfl rfl ?_
    refine v_ldc C dX8_today_9 kX8_55 ?_
    refine b_icmp_le C 16 dX8_today_11 (by decide) (rfl : Int32.toInt d = _) (show (99999 : Int32).toInt = 99999 by decide) (fun c2 => ?_) (fun c2 => ?_)
    · refine v_aload_n C 0 dX8_today_16 rfl rfl ?_
      refine v_geti (v := io 6) C 0 dX8_today_17 fX8_144 (by omega) hE0 rfl rfl ?_
      refine v_top (fun x3 ex3 => ?_)
      refine v_istore_n (lv' := [(0, .ref (ad 0)), (1, .int d), (2, .int x3)]) C [1, 2, 0] dX8_today_20 rfl (by decide) rfl ?_
      refine v_aload_n C 0 dX8_today_21 rfl rfl ?_
      refine v_iload_n C 1 dX8_today_22 rfl rfl ?_
      refine v_puti C 0 dX8_today_23 fX8_144 (by omega) hE0 rfl rfl rfl rfl (fun E4 hE4_0 oE4 => ?_)
      refine v_iload_n C 2 dX8_today_26 rfl rfl ?_
      exact v_ret C dX8_today_27 rfl rfl (Or.inr ⟨by omega, ex3, hE4_0, oE4⟩)
    · refine v_iconst (v := (-1)) C dX8_today_14 (by decide) ?_
      exact v_ret C dX8_today_15 rfl rfl (Or.inl ⟨by omega, by decide, rfl⟩)

set_option maxRecDepth 20000 in
theorem c_known (l : Launch) (G : Gl) (n : Nat) (ad : Nat → Nat) (E : Nat → va_E) (hN : 52 ≤ n) {io : Nat → Int32} (hE0 : E 0 = ob 8 (rfs ad [1, 6, 8, 48, 45, 51]) io) {iq : Nat → Int32} (hE45 : E 45 = ob 4 (rfs ad [46, 47]) iq) (k : Int32)  : CtI l G yX8_known cX8_known 3 .int 1 20 n ad E [.ref (ad 0), .int k] (fun r E' => (¬ (0 ≤ k.toInt ∧ k.toInt ≤ 99999) ∧ r.toInt = -1 ∧ E = E') ∨ ((0 ≤ k.toInt ∧ k.toInt ≤ 99999) ∧ r = io 7 ∧ E' 0 = ob 8 (rfs ad [1, 6, 8, 48, 45, 51]) (va_up io 7 k) ∧ E' 45 = ob 4 (rfs ad [46, 47]) (va_up iq 5 0) ∧ ∀ j, j ≠ 0 → j ≠ 45 → E' j = E j)) := by
  refine CtI.of (by decide) (Nat.le_of_ble_eq_true rfl) (fun X A C => ?_)
  refine v_sub (lv' := [(0, .ref (ad 0)), (1, .int k)]) [0, 1] rfl ?_
  refine v_iload_n C 1 dX8_known_0 rfl rfl ?_
  refine b_if_lt C 10 dX8_known_1 (by decide) (rfl : Int32.toInt k = _) (fun c1 => ?_) (fun c1 => ?_)
  · refine v_iconst (v := (-1)) C dX8_known_10 (by decide) ?_
    exact v_ret C dX8_known_11 rfl rfl (Or.inl ⟨by omega, by decide, rfl⟩)
  · refine v_iload_n C 1 dX8_known_4 rfl rfl ?_
    refine v_ldc C dX8_known_5 kX8_55 ?_
    refine b_icmp_le C 12 dX8_known_7 (by decide) (rfl : Int32.toInt k = _) (show (99999 : Int32).toInt = 99999 by decide) (fun c2 => ?_) (fun c2 => ?_)
    · refine v_aload_n C 0 dX8_known_12 rfl rfl ?_
      refine v_geti (v := io 7) C 0 dX8_known_13 fX8_56 (by omega) hE0 rfl rfl ?_
      refine v_istore_n (lv' := [(0, .ref (ad 0)), (1, .int k), (2, .int (io 7))]) C [1, 2, 0] dX8_known_16 rfl (by decide) rfl ?_
      refine v_aload_n C 0 dX8_known_17 rfl rfl ?_
      refine v_iload_n C 1 dX8_known_18 rfl rfl ?_
      refine v_puti C 0 dX8_known_19 fX8_56 (by omega) hE0 rfl rfl rfl rfl (fun E3 hE3_0 oE3 => ?_)
      have hE3_45 := (oE3 45 (by decide)).trans hE45
      refine v_aload_n C 0 dX8_known_22 rfl rfl ?_
      refine v_getr C 0 dX8_known_23 fX8_33 (by omega) hE3_0 rfl rfl ?_
      refine v_cVv C dX8_known_26 lX8_126 mX4_forget 45 (by omega) hE3_45 (by decide) rfl (c_forget l G n ad _ (by omega) hE3_45) ⟨by decide, by decide⟩ rfl (Nat.le_of_ble_eq_true rfl) ⟨Nat.zero_le _, Nat.zero_le _⟩ (fun E4 hq5 => ?_)
      obtain ⟨hE4_45, oE4⟩ := hq5
      have hE4_0 := (oE4 0 (by decide)).trans hE3_0
      refine v_iload_n C 2 dX8_known_29 rfl rfl ?_
      exact v_ret C dX8_known_30 rfl rfl (Or.inr ⟨by omega, rfl, hE4_0, hE4_45, fun j h0 h5 => (oE4 j h5).trans (oE3 j h0)⟩)
    · refine v_iconst (v := (-1)) C dX8_known_10 (by decide) ?_
      exact v_ret C dX8_known_11 rfl rfl (Or.inl ⟨by omega, by decide, rfl⟩)

