set_option maxRecDepth 20000 in
theorem c_day (l : Launch) (G : Gl) (n : Nat) (ad : Nat → Nat) (E : Nat → va_E) (hn : 6 ≤ n) {ic md ms ld ys : Nat → Int32} (hE1 : E 1 = ob 0 (rfs ad [2, 3, 4, 5]) ic) (hE2 : E 2 = aI G 12 md) (hE3 : E 3 = aI G 12 ms) (hE4 : E 4 = aI G 100 ld) (hE5 : E 5 = aI G 101 ys) (hP : CalP ic md) (hF : CalF ic md ms ld ys) (hN : 52 ≤ n) {io iz : Nat → Int32} (hE0 : E 0 = ob 8 (rfs ad [1, 6, 8, 48, 45, 51]) io) (hE6 : E 6 = ob 7 (rfs ad [7]) iz) (y : Int32) (dt : Int32)  : CtI l G yX8_day cX8_day 5 .int 1 22 n ad E [.ref (ad 0), .int y, .int dt] (fun r E' => (r.toInt = DYf ic md y.toInt dt.toInt) ∧ E = E') := by
  refine CtI.of (by decide) (Nat.le_of_ble_eq_true rfl) (fun X A C => ?_)
  refine v_sub (lv' := [(0, .ref (ad 0)), (1, .int y), (2, .int dt)]) [0, 1, 2] rfl ?_
  refine v_iload_n C 1 dX8_day_0 rfl rfl ?_
  refine v_cSp C dX8_day_1 lX8_89 mX8_isYear (c_isYear l G n ad _ y) ⟨by decide, by decide⟩ rfl (Nat.le_of_ble_eq_true rfl) ⟨Nat.zero_le _, Nat.zero_le _⟩ (fun r2 hp1 => ?_)
  rcases hp1 with ⟨rfl, hp1⟩ | ⟨rfl, hp1⟩
  · refine b_if_eq C 21 dX8_day_4 (by decide) (show (1 : Int32).toInt = 1 by decide) (fun c3 => absurd c3 (by decide)) (fun c3 => ?_)
    refine v_iload_n C 2 dX8_day_7 rfl rfl ?_
    refine b_if_lt C 21 dX8_day_8 (by decide) (rfl : Int32.toInt dt = _) (fun c4 => ?_) (fun c4 => ?_)
    · refine v_iconst (v := (-1)) C dX8_day_21 (by decide) ?_
      exact v_ret C dX8_day_22 rfl rfl ⟨by rw [show ((-1) : Int32).toInt = (-1) by decide]; unfold DYf; (repeat first | rw [if_pos (by omega)] | rw [if_neg (by omega)]); try omega, rfl⟩
    · refine v_iload_n C 2 dX8_day_11 rfl rfl ?_
      refine v_bipush (v := 100) C dX8_day_12 (by decide) ?_
      refine v_idiv C dX8_day_14 (by decide) ?_
      refine v_top (fun x5 ex5 => ?_)
      have hx5 : x5.toInt = (dt.toInt / 100) := by rw [ex5]; exact ti_div (rfl : Int32.toInt dt = _) (show (100 : Int32).toInt = 100 by decide) (by omega) (by omega)
      refine v_cSp C dX8_day_15 lX8_60 mX8_isMonth (c_isMonth l G n ad _ x5) ⟨by decide, by decide⟩ rfl (Nat.le_of_ble_eq_true rfl) ⟨Nat.zero_le _, Nat.zero_le _⟩ (fun r7 hp6 => ?_)
      rw [hx5] at hp6
      rcases hp6 with ⟨rfl, hp6⟩ | ⟨rfl, hp6⟩
      · refine b_if_ne C 23 dX8_day_18 (by decide) (show (1 : Int32).toInt = 1 by decide) (fun c8 => ?_) (fun c8 => absurd c8 (by decide))
        refine v_iload_n C 2 dX8_day_23 rfl rfl ?_
        refine v_bipush (v := 100) C dX8_day_24 (by decide) ?_
        refine v_idiv C dX8_day_26 (by decide) ?_
        refine v_top (fun x9 ex9 => ?_)
        have hx9 : x9.toInt = (dt.toInt / 100) := by rw [ex9]; exact ti_div (rfl : Int32.toInt dt = _) (show (100 : Int32).toInt = 100 by decide) (by omega) (by omega)
        refine v_istore_n (lv' := [(0, .ref (ad 0)), (1, .int y), (2, .int dt), (3, .int x9)]) C [1, 2, 3, 0] dX8_day_27 rfl (by decide) rfl ?_
        refine v_iload_n C 2 dX8_day_28 rfl rfl ?_
        refine v_bipush (v := 100) C dX8_day_29 (by decide) ?_
        refine v_irem C dX8_day_31 (by decide) ?_
        refine v_top (fun x10 ex10 => ?_)
        have hx10 : x10.toInt = (dt.toInt % 100) := by rw [ex10]; exact ti_rem (rfl : Int32.toInt dt = _) (show (100 : Int32).toInt = 100 by decide) (by omega) (by omega)
        refine v_istore (lv' := [(0, .ref (ad 0)), (1, .int y), (2, .int dt), (3, .int x9), (4, .int x10)]) C [1, 2, 3, 4, 0] dX8_day_32 (by decide) rfl ?_
        refine v_iload C 4 dX8_day_34 rfl ?_
        refine v_aload_n C 0 dX8_day_36 rfl rfl ?_
        refine v_getr C 0 dX8_day_37 fX8_12 (by omega) hE0 rfl rfl ?_
        refine v_iload_n C 1 dX8_day_40 rfl rfl ?_
        refine v_iload_n C 3 dX8_day_41 rfl rfl ?_
        refine v_cVp C dX8_day_42 lX8_92 mX0_daysIn 1 (by omega) hE1 (by decide) rfl (c_daysIn l G n ad _ hn hE1 hE2 hE3 hE4 hE5 hP hF y x9 (show Int32.toInt y = ((Int.toNat y.toInt : Nat) : Int) by rw [(rfl : Int32.toInt y = _)]; omega) (show Int32.toInt x9 = ((Int.toNat (dt.toInt / 100) : Nat) : Int) by rw [hx9]; omega) (by omega) (by omega)) ⟨by decide, by decide⟩ rfl (Nat.le_of_ble_eq_true rfl) ⟨Nat.zero_le _, Nat.zero_le _⟩ (fun r11 hp12 => ?_)
        refine b_icmp_lt C 50 dX8_day_45 (by decide) hx10 hp12 (fun c13 => ?_) (fun c13 => ?_)
        · refine v_aload_n C 0 dX8_day_50 rfl rfl ?_
          refine v_getr C 0 dX8_day_51 fX8_12 (by omega) hE0 rfl rfl ?_
          refine v_iload_n C 1 dX8_day_54 rfl rfl ?_
          refine v_iload_n C 3 dX8_day_55 rfl rfl ?_
          refine v_cVp C dX8_day_56 lX8_96 mX0_firstDay 1 (by omega) hE1 (by decide) rfl (c_firstDay l G n ad _ hn hE1 hE2 hE3 hE4 hE5 hP hF y x9 (show Int32.toInt y = ((Int.toNat y.toInt : Nat) : Int) by rw [(rfl : Int32.toInt y = _)]; omega) (show Int32.toInt x9 = ((Int.toNat (dt.toInt / 100) : Nat) : Int) by rw [hx9]; omega) (by omega) (by omega)) ⟨by decide, by decide⟩ rfl (Nat.le_of_ble_eq_true rfl) ⟨Nat.zero_le _, Nat.zero_le _⟩ (fun r14 hp15 => ?_)
          refine v_iload C 4 dX8_day_59 rfl ?_
          have b1 := DI_b (y := Int.toNat y.toInt) hP (m := Int.toNat (dt.toInt / 100)) (by omega)
          have b2 := FD_b hP (y := Int.toNat y.toInt) (m := Int.toNat (dt.toInt / 100)) (by omega) (by omega)
          refine v_iadd C dX8_day_61 ?_
          refine v_top (fun x16 ex16 => ?_)
          have hx16 : x16.toInt = ((FDf ic md (Int.toNat y.toInt) (Int.toNat (dt.toInt / 100))) + (dt.toInt % 100)) := by rw [ex16]; exact ti_add hp15 hx10 (by omega) (by omega)
          exact v_ret C dX8_day_62 rfl rfl ⟨by unfold DYf; (repeat first | rw [if_pos (by omega)] | rw [if_neg (by omega)]); try omega, rfl⟩
        · refine v_iconst (v := (-1)) C dX8_day_48 (by decide) ?_
          exact v_ret C dX8_day_49 rfl rfl ⟨by rw [show ((-1) : Int32).toInt = (-1) by decide]; unfold DYf; (repeat first | rw [if_pos (by omega)] | rw [if_neg (by omega)]); try omega, rfl⟩
      · refine b_if_ne C 23 dX8_day_18 (by decide) (show (0 : Int32).toInt = 0 by decide) (fun c17 => absurd c17 (by decide)) (fun c17 => ?_)
        refine v_iconst (v := (-1)) C dX8_day_21 (by decide) ?_
        exact v_ret C dX8_day_22 rfl rfl ⟨by rw [show ((-1) : Int32).toInt = (-1) by decide]; unfold DYf; (repeat first | rw [if_pos (by omega)] | rw [if_neg (by omega)]); try omega, rfl⟩
  · refine b_if_eq C 21 dX8_day_4 (by decide) (show (0 : Int32).toInt = 0 by decide) (fun c18 => ?_) (fun c18 => absurd c18 (by decide))
    refine v_iconst (v := (-1)) C dX8_day_21 (by decide) ?_
    exact v_ret C dX8_day_22 rfl rfl ⟨by rw [show ((-1) : Int32).toInt = (-1) by decide]; unfold DYf; (repeat first | rw [if_pos (by omega)] | rw [if_neg (by omega)]); try omega, rfl⟩

set_option maxRecDepth 20000 in
theorem c_date (l : Launch) (G : Gl) (n : Nat) (ad : Nat → Nat) (E : Nat → va_E) (hn : 6 ≤ n) {ic md ms ld ys : Nat → Int32} (hE1 : E 1 = ob 0 (rfs ad [2, 3, 4, 5]) ic) (hE2 : E 2 = aI G 12 md) (hE3 : E 3 = aI G 12 ms) (hE4 : E 4 = aI G 100 ld) (hE5 : E 5 = aI G 101 ys) (hP : CalP ic md) (hF : CalF ic md ms ld ys) (hN : 52 ≤ n) {io iz : Nat → Int32} (hE0 : E 0 = ob 8 (rfs ad [1, 6, 8, 48, 45, 51]) io) (hE6 : E 6 = ob 7 (rfs ad [7]) iz) (d : Int32) (w : Int32)  : CtI l G yX8_date cX8_date 5 .int 3 64 n ad E [.ref (ad 0), .int d, .int w] (fun r E' => (DTp ic md d.toInt w.toInt r.toInt) ∧ E = E') := by
  refine CtI.of (by decide) (Nat.le_of_ble_eq_true rfl) (fun X A C => ?_)
  refine v_sub (lv' := [(0, .ref (ad 0)), (1, .int d), (2, .int w)]) [0, 1, 2] rfl ?_
  have q7 := hP.2.2.2.2.1
  have q8 := hP.2.2.2.2.2
  have hy100 := YS_b (a := (ic 4).toInt) (b := (ic 5).toInt) hP.1 100
  refine v_aload_n C 0 dX8_date_0 rfl rfl ?_
  refine v_getr C 0 dX8_date_1 fX8_12 (by omega) hE0 rfl rfl ?_
  refine v_iload_n C 1 dX8_date_4 rfl rfl ?_
  refine v_cVp C dX8_date_5 lX8_99 mX0_has 1 (by omega) hE1 (by decide) rfl (c_has l G n ad _ hn hE1 hE2 hE3 hE4 hE5 hP hF d) ⟨by decide, by decide⟩ rfl (Nat.le_of_ble_eq_true rfl) ⟨Nat.zero_le _, Nat.zero_le _⟩ (fun r2 hp1 => ?_)
  rcases hp1 with ⟨rfl, hp1⟩ | ⟨rfl, hp1⟩
  · refine b_if_eq C 20 dX8_date_8 (by decide) (show (1 : Int32).toInt = 1 by decide) (fun c3 => absurd c3 (by decide)) (fun c3 => ?_)
    refine v_iload_n C 2 dX8_date_11 rfl rfl ?_
    refine b_if_lt C 20 dX8_date_12 (by decide) (rfl : Int32.toInt w = _) (fun c4 => ?_) (fun c4 => ?_)
    · refine v_iconst (v := (-1)) C dX8_date_20 (by decide) ?_
      exact v_ret C dX8_date_21 rfl rfl ⟨Or.inl ⟨by unfold okDT; omega, by decide⟩, rfl⟩
    · refine v_iload_n C 2 dX8_date_15 rfl rfl ?_
      refine v_iconst (v := 3) C dX8_date_16 (by decide) ?_
      refine b_icmp_le C 22 dX8_date_17 (by decide) (rfl : Int32.toInt w = _) (show (3 : Int32).toInt = 3 by decide) (fun c5 => ?_) (fun c5 => ?_)
      · refine v_iload_n C 2 dX8_date_22 rfl rfl ?_
        refine v_iconst (v := 3) C dX8_date_23 (by decide) ?_
        refine b_icmp_ne C 36 dX8_date_24 (by decide) (rfl : Int32.toInt w = _) (show (3 : Int32).toInt = 3 by decide) (fun c6 => ?_) (fun c6 => ?_)
        · refine v_aload_n C 0 dX8_date_36 rfl rfl ?_
          refine v_getr C 0 dX8_date_37 fX8_12 (by omega) hE0 rfl rfl ?_
          refine v_iload_n C 1 dX8_date_40 rfl rfl ?_
          refine v_cVp C dX8_date_41 lX8_106 mX0_yearOf 1 (by omega) hE1 (by decide) rfl (c_yearOf l G n ad _ hn hE1 hE2 hE3 hE4 hE5 hP hF d (by omega) (by omega)) ⟨by decide, by decide⟩ rfl (Nat.le_of_ble_eq_true rfl) ⟨Nat.zero_le _, Nat.zero_le _⟩ (fun r7 hp8 => ?_)
          obtain ⟨yy, hyy, hry, hy1, hy2⟩ := hp8
          refine v_istore_n (lv' := [(0, .ref (ad 0)), (1, .int d), (2, .int w), (3, .int r7)]) C [1, 2, 3, 0] dX8_date_44 rfl (by decide) rfl ?_
          refine v_iload_n C 2 dX8_date_45 rfl rfl ?_
          refine b_if_ne C 51 dX8_date_46 (by decide) (rfl : Int32.toInt w = _) (fun c9 => ?_) (fun c9 => ?_)
          · refine v_aload_n C 0 dX8_date_51 rfl rfl ?_
            refine v_getr C 0 dX8_date_52 fX8_12 (by omega) hE0 rfl rfl ?_
            refine v_iload_n C 3 dX8_date_55 rfl rfl ?_
            refine v_iload_n C 1 dX8_date_56 rfl rfl ?_
            refine v_cVp C dX8_date_57 lX8_109 mX0_monthOf 1 (by omega) hE1 (by decide) rfl (c_monthOf l G n ad _ hn hE1 hE2 hE3 hE4 hE5 hP hF r7 d hry hyy hy1 hy2) ⟨by decide, by decide⟩ rfl (Nat.le_of_ble_eq_true rfl) ⟨Nat.zero_le _, Nat.zero_le _⟩ (fun r10 hp11 => ?_)
            obtain ⟨mm, hmm, hrm, hm1, hm2⟩ := hp11
            refine v_istore (lv' := [(0, .ref (ad 0)), (1, .int d), (2, .int w), (3, .int r7), (4, .int r10)]) C [1, 2, 3, 4, 0] dX8_date_60 (by decide) rfl ?_
            refine v_iload_n C 2 dX8_date_62 rfl rfl ?_
            refine v_iconst (v := 1) C dX8_date_63 (by decide) ?_
            refine b_icmp_ne C 72 dX8_date_64 (by decide) (rfl : Int32.toInt w = _) (show (1 : Int32).toInt = 1 by decide) (fun c12 => ?_) (fun c12 => ?_)
            · refine v_iload_n C 1 dX8_date_72 rfl rfl ?_
              refine v_aload_n C 0 dX8_date_73 rfl rfl ?_
              refine v_getr C 0 dX8_date_74 fX8_12 (by omega) hE0 rfl rfl ?_
              refine v_iload_n C 3 dX8_date_77 rfl rfl ?_
              refine v_iload C 4 dX8_date_78 rfl ?_
              refine v_cVp C dX8_date_80 lX8_96 mX0_firstDay 1 (by omega) hE1 (by decide) rfl (c_firstDay l G n ad _ hn hE1 hE2 hE3 hE4 hE5 hP hF r7 r10 hry hrm (by omega) (by omega)) ⟨by decide, by decide⟩ rfl (Nat.le_of_ble_eq_true rfl) ⟨Nat.zero_le _, Nat.zero_le _⟩ (fun r13 hp14 => ?_)
              have b2 := FD_b hP (y := yy) (m := mm) (by omega) (by omega)
              refine v_isub C dX8_date_83 ?_
              refine v_top (fun x15 ex15 => ?_)
              have hx15 : x15.toInt = (d.toInt - (FDf ic md yy mm)) := by rw [ex15]; exact ti_sub (rfl : Int32.toInt d = _) hp14 (by omega) (by omega)
              exact v_ret C dX8_date_84 rfl rfl ⟨Or.inr ⟨by unfold okDT; omega, 12 * yy + mm, by omega, by rw [FK_of hmm]; exact hm1, by rw [FK_of1 hP hmm]; exact hm2, by unfold DTf; rw [FK_of hmm, show (12 * yy + mm) % 12 = mm by omega]; (repeat first | rw [if_pos (by omega)] | rw [if_neg (by omega)]); try omega⟩, rfl⟩
            · refine v_iload C 4 dX8_date_67 rfl ?_
              refine v_goto C 84 dX8_date_69 (by decide) ?_
              exact v_ret C dX8_date_84 rfl rfl ⟨Or.inr ⟨by unfold okDT; omega, 12 * yy + mm, by omega, by rw [FK_of hmm]; exact hm1, by rw [FK_of1 hP hmm]; exact hm2, by unfold DTf; rw [FK_of hmm, show (12 * yy + mm) % 12 = mm by omega]; (repeat first | rw [if_pos (by omega)] | rw [if_neg (by omega)]); try omega⟩, rfl⟩
          · refine v_iload_n C 3 dX8_date_49 rfl rfl ?_
            exact v_ret C dX8_date_50 rfl rfl ⟨Or.inr ⟨by unfold okDT; omega, by obtain ⟨k, g1, g2, g3⟩ := day_k hP (d := d.toInt) (by omega) 1200 (by rw [FK_end hP]; omega); exact ⟨k, g1, g2, g3, by unfold DTf; rw [day_y hP g2 g3 hy1 hy2]; (repeat first | rw [if_pos (by omega)] | rw [if_neg (by omega)]); try omega⟩⟩, rfl⟩
        · refine v_aload_n C 0 dX8_date_27 rfl rfl ?_
          refine v_getr C 0 dX8_date_28 fX8_12 (by omega) hE0 rfl rfl ?_
          refine v_iload_n C 1 dX8_date_31 rfl rfl ?_
          refine v_cVp C dX8_date_32 lX8_102 mX0_weekdayOf 1 (by omega) hE1 (by decide) rfl (c_weekdayOf l G n ad _ hn hE1 hE2 hE3 hE4 hE5 hP hF d (by omega) (by omega)) ⟨by decide, by decide⟩ rfl (Nat.le_of_ble_eq_true rfl) ⟨Nat.zero_le _, Nat.zero_le _⟩ (fun r16 hp17 => ?_)
          have br16 := mod_b (a := d.toInt + (ic 8).toInt) (b := (ic 7).toInt) (by omega)
          exact v_ret C dX8_date_35 rfl rfl ⟨Or.inr ⟨by unfold okDT; omega, by obtain ⟨k, g1, g2, g3⟩ := day_k hP (d := d.toInt) (by omega) 1200 (by rw [FK_end hP]; omega); exact ⟨k, g1, g2, g3, by unfold DTf; (repeat first | rw [if_pos (by omega)] | rw [if_neg (by omega)]); try omega⟩⟩, rfl⟩
      · refine v_iconst (v := (-1)) C dX8_date_20 (by decide) ?_
        exact v_ret C dX8_date_21 rfl rfl ⟨Or.inl ⟨by unfold okDT; omega, by decide⟩, rfl⟩
  · refine b_if_eq C 20 dX8_date_8 (by decide) (show (0 : Int32).toInt = 0 by decide) (fun c18 => ?_) (fun c18 => absurd c18 (by decide))
    refine v_iconst (v := (-1)) C dX8_date_20 (by decide) ?_
    exact v_ret C dX8_date_21 rfl rfl ⟨Or.inl ⟨by unfold okDT; omega, by decide⟩, rfl⟩

set_option maxRecDepth 20000 in
theorem c_months (l : Launch) (G : Gl) (n : Nat) (ad : Nat → Nat) (E : Nat → va_E) (hn : 6 ≤ n) {ic md ms ld ys : Nat → Int32} (hE1 : E 1 = ob 0 (rfs ad [2, 3, 4, 5]) ic) (hE2 : E 2 = aI G 12 md) (hE3 : E 3 = aI G 12 ms) (hE4 : E 4 = aI G 100 ld) (hE5 : E 5 = aI G 101 ys) (hP : CalP ic md) (hF : CalF ic md ms ld ys) (hN : 52 ≤ n) {io iz : Nat → Int32} (hE0 : E 0 = ob 8 (rfs ad [1, 6, 8, 48, 45, 51]) io) (hE6 : E 6 = ob 7 (rfs ad [7]) iz) (d : Int32) (k : Int32) (e : Int32)  : CtI l G yX8_months cX8_months 5 .int 3 71 n ad E [.ref (ad 0), .int d, .int k, .int e] (fun r E' => (MOp ic md d.toInt k.toInt e.toInt r.toInt) ∧ E = E') := by
  refine CtI.of (by decide) (Nat.le_of_ble_eq_true rfl) (fun X A C => ?_)
  refine v_sub (lv' := [(0, .ref (ad 0)), (1, .int d), (2, .int k), (3, .int e)]) [0, 1, 2, 3] rfl ?_
  have q7 := hP.2.2.2.2.1
  have q8 := hP.2.2.2.2.2
  have hy100 := YS_b (a := (ic 4).toInt) (b := (ic 5).toInt) hP.1 100
  refine v_aload_n C 0 dX8_months_0 rfl rfl ?_
  refine v_getr C 0 dX8_months_1 fX8_12 (by omega) hE0 rfl rfl ?_
  refine v_iload_n C 1 dX8_months_4 rfl rfl ?_
  refine v_cVp C dX8_months_5 lX8_99 mX0_has 1 (by omega) hE1 (by decide) rfl (c_has l G n ad _ hn hE1 hE2 hE3 hE4 hE5 hP hF d) ⟨by decide, by decide⟩ rfl (Nat.le_of_ble_eq_true rfl) ⟨Nat.zero_le _, Nat.zero_le _⟩ (fun r2 hp1 => ?_)
  rcases hp1 with ⟨rfl, hp1⟩ | ⟨rfl, hp1⟩
  · refine b_if_eq C 34 dX8_months_8 (by decide) (show (1 : Int32).toInt = 1 by decide) (fun c3 => absurd c3 (by decide)) (fun c3 => ?_)
    refine v_iload_n C 2 dX8_months_11 rfl rfl ?_
    refine v_sipush (v := (-9999)) C dX8_months_12 (by decide) ?_
    refine b_icmp_lt C 34 dX8_months_15 (by decide) (rfl : Int32.toInt k = _) (show ((-9999) : Int32).toInt = (-9999) by decide) (fun c4 => ?_) (fun c4 => ?_)
    · refine v_iconst (v := (-1)) C dX8_months_34 (by decide) ?_
      exact v_ret C dX8_months_35 rfl rfl ⟨Or.inl ⟨by unfold okMO; omega, by decide⟩, rfl⟩
    · refine v_iload_n C 2 dX8_months_18 rfl rfl ?_
      refine v_sipush (v := 9999) C dX8_months_19 (by decide) ?_
      refine b_icmp_gt C 34 dX8_months_22 (by decide) (rfl : Int32.toInt k = _) (show (9999 : Int32).toInt = 9999 by decide) (fun c5 => ?_) (fun c5 => ?_)
      · refine v_iconst (v := (-1)) C dX8_months_34 (by decide) ?_
        exact v_ret C dX8_months_35 rfl rfl ⟨Or.inl ⟨by unfold okMO; omega, by decide⟩, rfl⟩
      · refine v_iload_n C 3 dX8_months_25 rfl rfl ?_
        refine b_if_lt C 34 dX8_months_26 (by decide) (rfl : Int32.toInt e = _) (fun c6 => ?_) (fun c6 => ?_)
        · refine v_iconst (v := (-1)) C dX8_months_34 (by decide) ?_
          exact v_ret C dX8_months_35 rfl rfl ⟨Or.inl ⟨by unfold okMO; omega, by decide⟩, rfl⟩
        · refine v_iload_n C 3 dX8_months_29 rfl rfl ?_
          refine v_iconst (v := 2) C dX8_months_30 (by decide) ?_
          refine b_icmp_le C 36 dX8_months_31 (by decide) (rfl : Int32.toInt e = _) (show (2 : Int32).toInt = 2 by decide) (fun c7 => ?_) (fun c7 => ?_)
          · refine v_aload_n C 0 dX8_months_36 rfl rfl ?_
            refine v_getr C 0 dX8_months_37 fX8_12 (by omega) hE0 rfl rfl ?_
            refine v_iload_n C 1 dX8_months_40 rfl rfl ?_
            refine v_iload_n C 2 dX8_months_41 rfl rfl ?_
            refine v_iload_n C 3 dX8_months_42 rfl rfl ?_
            refine v_cVp C dX8_months_43 lX8_112 mX0_monthsOn 1 (by omega) hE1 (by decide) rfl (c_monthsOn l G n ad _ hn hE1 hE2 hE3 hE4 hE5 hP hF d k e (by omega) (by omega) (by omega) (by omega) (by omega) (by omega)) ⟨by decide, by decide⟩ rfl (Nat.le_of_ble_eq_true rfl) ⟨Nat.zero_le _, Nat.zero_le _⟩ (fun r8 hp9 => ?_)
            obtain ⟨yy, mm, hyy, hmm, hm1, hm2, hro⟩ := hp9
            refine v_istore (lv' := [(0, .ref (ad 0)), (1, .int d), (2, .int k), (3, .int e), (4, .int r8)]) C [1, 2, 3, 4, 0] dX8_months_46 (by decide) rfl ?_
            refine v_iload C 4 dX8_months_48 rfl ?_
            refine v_iconst (v := (-1)) C dX8_months_50 (by decide) ?_
            refine b_icmp_ne C 59 dX8_months_51 (by decide) hro (show ((-1) : Int32).toInt = (-1) by decide) (fun c10 => ?_) (fun c10 => ?_)
            · refine v_iload C 4 dX8_months_59 rfl ?_
              exact v_ret C dX8_months_61 rfl rfl ⟨Or.inr ⟨by unfold okMO; omega, 12 * yy + mm, by omega, by rw [FK_of hmm]; exact hm1, by rw [FK_of1 hP hmm]; exact hm2, by rw [FK_of hmm]; (repeat first | rw [if_pos (by omega)] | rw [if_neg (by omega)]); try omega⟩, rfl⟩
            · refine v_bipush (v := (-6)) C dX8_months_54 (by decide) ?_
              refine v_goto C 61 dX8_months_56 (by decide) ?_
              exact v_ret C dX8_months_61 rfl rfl ⟨Or.inr ⟨by unfold okMO; omega, 12 * yy + mm, by omega, by rw [FK_of hmm]; exact hm1, by rw [FK_of1 hP hmm]; exact hm2, by rw [show ((-6) : Int32).toInt = (-6) by decide]; rw [FK_of hmm]; (repeat first | rw [if_pos (by omega)] | rw [if_neg (by omega)]); try omega⟩, rfl⟩
          · refine v_iconst (v := (-1)) C dX8_months_34 (by decide) ?_
            exact v_ret C dX8_months_35 rfl rfl ⟨Or.inl ⟨by unfold okMO; omega, by decide⟩, rfl⟩
  · refine b_if_eq C 34 dX8_months_8 (by decide) (show (0 : Int32).toInt = 0 by decide) (fun c11 => ?_) (fun c11 => absurd c11 (by decide))
    refine v_iconst (v := (-1)) C dX8_months_34 (by decide) ?_
    exact v_ret C dX8_months_35 rfl rfl ⟨Or.inl ⟨by unfold okMO; omega, by decide⟩, rfl⟩

set_option maxRecDepth 20000 in
theorem c_nth (l : Launch) (G : Gl) (n : Nat) (ad : Nat → Nat) (E : Nat → va_E) (hn : 6 ≤ n) {ic md ms ld ys : Nat → Int32} (hE1 : E 1 = ob 0 (rfs ad [2, 3, 4, 5]) ic) (hE2 : E 2 = aI G 12 md) (hE3 : E 3 = aI G 12 ms) (hE4 : E 4 = aI G 100 ld) (hE5 : E 5 = aI G 101 ys) (hP : CalP ic md) (hF : CalF ic md ms ld ys) (hN : 52 ≤ n) {io iz : Nat → Int32} (hE0 : E 0 = ob 8 (rfs ad [1, 6, 8, 48, 45, 51]) io) (hE6 : E 6 = ob 7 (rfs ad [7]) iz) (m : Int32) (w : Int32) (k : Int32)  : CtI l G yX8_nth cX8_nth 5 .int 4 92 n ad E [.ref (ad 0), .int m, .int w, .int k] (fun r E' => (r.toInt = NTf ic md m.toInt w.toInt k.toInt) ∧ E = E') := by
  refine CtI.of (by decide) (Nat.le_of_ble_eq_true rfl) (fun X A C => ?_)
  refine v_sub (lv' := [(0, .ref (ad 0)), (1, .int m), (2, .int w), (3, .int k)]) [0, 1, 2, 3] rfl ?_
  have q7 := hP.2.2.2.2.1
  have q8 := hP.2.2.2.2.2
  have hy100 := YS_b (a := (ic 4).toInt) (b := (ic 5).toInt) hP.1 100
  refine v_iload_n C 1 dX8_nth_0 rfl rfl ?_
  refine b_if_lt C 44 dX8_nth_1 (by decide) (rfl : Int32.toInt m = _) (fun c1 => ?_) (fun c1 => ?_)
  · refine v_iconst (v := (-1)) C dX8_nth_44 (by decide) ?_
    exact v_ret C dX8_nth_45 rfl rfl ⟨by rw [show ((-1) : Int32).toInt = (-1) by decide]; unfold NTf; (repeat first | rw [if_pos (by omega)] | rw [if_neg (by omega)]); try omega, rfl⟩
  · refine v_iload_n C 1 dX8_nth_4 rfl rfl ?_
    refine v_bipush (v := 100) C dX8_nth_5 (by decide) ?_
    refine v_idiv C dX8_nth_7 (by decide) ?_
    refine v_top (fun x2 ex2 => ?_)
    have hx2 : x2.toInt = (m.toInt / 100) := by rw [ex2]; exact ti_div (rfl : Int32.toInt m = _) (show (100 : Int32).toInt = 100 by decide) (by omega) (by omega)
    refine v_cSp C dX8_nth_8 lX8_89 mX8_isYear (c_isYear l G n ad _ x2) ⟨by decide, by decide⟩ rfl (Nat.le_of_ble_eq_true rfl) ⟨Nat.zero_le _, Nat.zero_le _⟩ (fun r4 hp3 => ?_)
    rw [hx2] at hp3
    rcases hp3 with ⟨rfl, hp3⟩ | ⟨rfl, hp3⟩
    · refine b_if_eq C 44 dX8_nth_11 (by decide) (show (1 : Int32).toInt = 1 by decide) (fun c5 => absurd c5 (by decide)) (fun c5 => ?_)
      refine v_iload_n C 1 dX8_nth_14 rfl rfl ?_
      refine v_bipush (v := 100) C dX8_nth_15 (by decide) ?_
      refine v_irem C dX8_nth_17 (by decide) ?_
      refine v_top (fun x6 ex6 => ?_)
      have hx6 : x6.toInt = (m.toInt % 100) := by rw [ex6]; exact ti_rem (rfl : Int32.toInt m = _) (show (100 : Int32).toInt = 100 by decide) (by omega) (by omega)
      refine v_cSp C dX8_nth_18 lX8_60 mX8_isMonth (c_isMonth l G n ad _ x6) ⟨by decide, by decide⟩ rfl (Nat.le_of_ble_eq_true rfl) ⟨Nat.zero_le _, Nat.zero_le _⟩ (fun r8 hp7 => ?_)
      rw [hx6] at hp7
      rcases hp7 with ⟨rfl, hp7⟩ | ⟨rfl, hp7⟩
      · refine b_if_eq C 44 dX8_nth_21 (by decide) (show (1 : Int32).toInt = 1 by decide) (fun c9 => absurd c9 (by decide)) (fun c9 => ?_)
        refine v_aload_n C 0 dX8_nth_24 rfl rfl ?_
        refine v_getr C 0 dX8_nth_25 fX8_12 (by omega) hE0 rfl rfl ?_
        refine v_iload_n C 2 dX8_nth_28 rfl rfl ?_
        refine v_cVp C dX8_nth_29 lX8_116 mX0_isWeekday 1 (by omega) hE1 (by decide) rfl (c_isWeekday l G n ad _ hn hE1 hE2 hE3 hE4 hE5 hP hF w) ⟨by decide, by decide⟩ rfl (Nat.le_of_ble_eq_true rfl) ⟨Nat.zero_le _, Nat.zero_le _⟩ (fun r11 hp10 => ?_)
        rcases hp10 with ⟨rfl, hp10⟩ | ⟨rfl, hp10⟩
        · refine b_if_eq C 44 dX8_nth_32 (by decide) (show (1 : Int32).toInt = 1 by decide) (fun c12 => absurd c12 (by decide)) (fun c12 => ?_)
          refine v_iload_n C 3 dX8_nth_35 rfl rfl ?_
          refine b_if_lt C 44 dX8_nth_36 (by decide) (rfl : Int32.toInt k = _) (fun c13 => ?_) (fun c13 => ?_)
          · refine v_iconst (v := (-1)) C dX8_nth_44 (by decide) ?_
            exact v_ret C dX8_nth_45 rfl rfl ⟨by rw [show ((-1) : Int32).toInt = (-1) by decide]; unfold NTf; (repeat first | rw [if_pos (by omega)] | rw [if_neg (by omega)]); try omega, rfl⟩
          · refine v_iload_n C 3 dX8_nth_39 rfl rfl ?_
            refine v_iconst (v := 4) C dX8_nth_40 (by decide) ?_
            refine b_icmp_le C 46 dX8_nth_41 (by decide) (rfl : Int32.toInt k = _) (show (4 : Int32).toInt = 4 by decide) (fun c14 => ?_) (fun c14 => ?_)
            · refine v_aload_n C 0 dX8_nth_46 rfl rfl ?_
              refine v_getr C 0 dX8_nth_47 fX8_12 (by omega) hE0 rfl rfl ?_
              refine v_iload_n C 1 dX8_nth_50 rfl rfl ?_
              refine v_bipush (v := 100) C dX8_nth_51 (by decide) ?_
              refine v_idiv C dX8_nth_53 (by decide) ?_
              refine v_top (fun x15 ex15 => ?_)
              have hx15 : x15.toInt = (m.toInt / 100) := by rw [ex15]; exact ti_div (rfl : Int32.toInt m = _) (show (100 : Int32).toInt = 100 by decide) (by omega) (by omega)
              refine v_iload_n C 1 dX8_nth_54 rfl rfl ?_
              refine v_bipush (v := 100) C dX8_nth_55 (by decide) ?_
              refine v_irem C dX8_nth_57 (by decide) ?_
              refine v_top (fun x16 ex16 => ?_)
              have hx16 : x16.toInt = (m.toInt % 100) := by rw [ex16]; exact ti_rem (rfl : Int32.toInt m = _) (show (100 : Int32).toInt = 100 by decide) (by omega) (by omega)
              refine v_iload_n C 2 dX8_nth_58 rfl rfl ?_
              refine v_iload_n C 3 dX8_nth_59 rfl rfl ?_
              refine v_cVp C dX8_nth_60 lX8_119 mX0_nthWeekday 1 (by omega) hE1 (by decide) rfl (c_nthWeekday l G n ad _ hn hE1 hE2 hE3 hE4 hE5 hP hF x15 x16 w k (show Int32.toInt x15 = ((Int.toNat (m.toInt / 100) : Nat) : Int) by rw [hx15]; omega) (show Int32.toInt x16 = ((Int.toNat (m.toInt % 100) : Nat) : Int) by rw [hx16]; omega) (by omega) (by omega) (by omega) (by omega) (by omega) (by omega)) ⟨by decide, by decide⟩ rfl (Nat.le_of_ble_eq_true rfl) ⟨Nat.zero_le _, Nat.zero_le _⟩ (fun r17 hp18 => ?_)
              refine v_istore (lv' := [(0, .ref (ad 0)), (1, .int m), (2, .int w), (3, .int k), (4, .int r17)]) C [1, 2, 3, 4, 0] dX8_nth_63 (by decide) rfl ?_
              refine v_iload C 4 dX8_nth_65 rfl ?_
              refine v_iconst (v := (-1)) C dX8_nth_67 (by decide) ?_
              refine b_icmp_ne C 76 dX8_nth_68 (by decide) hp18 (show ((-1) : Int32).toInt = (-1) by decide) (fun c19 => ?_) (fun c19 => ?_)
              · refine v_iload C 4 dX8_nth_76 rfl ?_
                exact v_ret C dX8_nth_78 rfl rfl ⟨by unfold NTf; (repeat first | rw [if_pos (by omega)] | rw [if_neg (by omega)]); try omega, rfl⟩
              · refine v_bipush (v := (-6)) C dX8_nth_71 (by decide) ?_
                refine v_goto C 78 dX8_nth_73 (by decide) ?_
                exact v_ret C dX8_nth_78 rfl rfl ⟨by rw [show ((-6) : Int32).toInt = (-6) by decide]; unfold NTf; (repeat first | rw [if_pos (by omega)] | rw [if_neg (by omega)]); try omega, rfl⟩
            · refine v_iconst (v := (-1)) C dX8_nth_44 (by decide) ?_
              exact v_ret C dX8_nth_45 rfl rfl ⟨by rw [show ((-1) : Int32).toInt = (-1) by decide]; unfold NTf; (repeat first | rw [if_pos (by omega)] | rw [if_neg (by omega)]); try omega, rfl⟩
        · refine b_if_eq C 44 dX8_nth_32 (by decide) (show (0 : Int32).toInt = 0 by decide) (fun c20 => ?_) (fun c20 => absurd c20 (by decide))
          refine v_iconst (v := (-1)) C dX8_nth_44 (by decide) ?_
          exact v_ret C dX8_nth_45 rfl rfl ⟨by rw [show ((-1) : Int32).toInt = (-1) by decide]; unfold NTf; (repeat first | rw [if_pos (by omega)] | rw [if_neg (by omega)]); try omega, rfl⟩
      · refine b_if_eq C 44 dX8_nth_21 (by decide) (show (0 : Int32).toInt = 0 by decide) (fun c21 => ?_) (fun c21 => absurd c21 (by decide))
        refine v_iconst (v := (-1)) C dX8_nth_44 (by decide) ?_
        exact v_ret C dX8_nth_45 rfl rfl ⟨by rw [show ((-1) : Int32).toInt = (-1) by decide]; unfold NTf; (repeat first | rw [if_pos (by omega)] | rw [if_neg (by omega)]); try omega, rfl⟩
    · refine b_if_eq C 44 dX8_nth_11 (by decide) (show (0 : Int32).toInt = 0 by decide) (fun c22 => ?_) (fun c22 => absurd c22 (by decide))
      refine v_iconst (v := (-1)) C dX8_nth_44 (by decide) ?_
      exact v_ret C dX8_nth_45 rfl rfl ⟨by rw [show ((-1) : Int32).toInt = (-1) by decide]; unfold NTf; (repeat first | rw [if_pos (by omega)] | rw [if_neg (by omega)]); try omega, rfl⟩

