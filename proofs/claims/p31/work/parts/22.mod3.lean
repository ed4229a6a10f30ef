set_option maxRecDepth 20000 in
theorem lp_mmonth {X : Mx} {l : Launch} {G : Gl} {A : Nat → Prop} {ret : Option FieldType} {R : Room} {Q : State → Prop} {n : Nat} {ad : Nat → Nat} (C : Cx X l G A "OddHoursModel" cX9_monthOf 5 ret R) (E : Nat → va_E) (hn : 98 ≤ n) {im ic md mf : Nat → Int32} (hic : icm im = ic) (hP : CalP ic md) (hM : E 68 = ob 9 (rX9 ad) im) (h70 : E 70 = aI G 1201 mf) (hF : ∀ k, k < 1201 → (mf k).toInt = FKf ic md k) (d : Int32)
    (kont : ∀ (k : Nat) (x2 x3 : Int32), x2.toInt = (k : Int) → k < 1200 → FKf ic md k ≤ d.toInt → d.toInt < FKf ic md (k + 1) → V X G A 5 Q n ad 0 0 E 49 [(0, .ref (ad 68)), (1, .int d), (2, .int x2), (3, .int x3)] []) :
    ∀ (t lo hi : Nat) (x2 x3 : Int32), hi < lo + t → lo ≤ hi → hi < 1200 → x2.toInt = (lo : Int) → x3.toInt = (hi : Int) → FKf ic md lo ≤ d.toInt → d.toInt < FKf ic md (hi + 1) → V X G A 5 Q n ad 0 0 E 10 [(0, .ref (ad 68)), (1, .int d), (2, .int x2), (3, .int x3)] [] := by
  intro t
  induction t with
  | zero => intro lo hi x2 x3 h1 h2; omega
  | succ t ih =>
    intro lo hi x2 x3 hm hlh hhi hx2 hx3 hl hh
    refine v_iload_n C 2 dX9_monthOf_10 rfl rfl ?_
    refine v_iload_n C 3 dX9_monthOf_11 rfl rfl ?_
    refine b_icmp_ge C 49 dX9_monthOf_12 (by decide) hx2 hx3 (fun c31 => ?_) (fun c31 => ?_)
    · exact kont lo x2 x3 hx2 (by omega) hl (by rw [show lo = hi by omega]; exact hh)
    · refine v_iload_n C 2 dX9_monthOf_15 rfl rfl ?_
      refine v_iload_n C 3 dX9_monthOf_16 rfl rfl ?_
      refine v_iadd C dX9_monthOf_17 ?_
      refine v_top (fun x32 ex32 => ?_)
      have hx32 : x32.toInt = ((lo : Int) + (hi : Int)) := by rw [ex32]; exact ti_add hx2 hx3 (by omega) (by omega)
      refine v_iconst (v := 1) C dX9_monthOf_18 (by decide) ?_
      refine v_iadd C dX9_monthOf_19 ?_
      refine v_top (fun x33 ex33 => ?_)
      have hx33 : x33.toInt = (((lo : Int) + (hi : Int)) + 1) := by rw [ex33]; exact ti_add hx32 (show (1 : Int32).toInt = 1 by decide) (by omega) (by omega)
      refine v_iconst (v := 2) C dX9_monthOf_20 (by decide) ?_
      refine v_idiv C dX9_monthOf_21 (by decide) ?_
      refine v_top (fun x34 ex34 => ?_)
      have hx34 : x34.toInt = ((((lo : Int) + (hi : Int)) + 1) / 2) := by rw [ex34]; exact ti_div hx33 (show (2 : Int32).toInt = 2 by decide) (by omega) (by omega)
      have hx34 : x34.toInt = (((lo + hi + 1) / 2 : Nat) : Int) := hx34.trans (by omega)
      refine v_istore (lv' := [(0, .ref (ad 68)), (1, .int d), (2, .int x2), (3, .int x3), (4, .int x34)]) C [1, 2, 3, 4, 0] dX9_monthOf_22 (by decide) rfl ?_
      refine v_aload_n C 0 dX9_monthOf_24 rfl rfl ?_
      refine v_getr C 68 dX9_monthOf_25 fX9_26 (by omega) hM rfl rfl ?_
      refine v_iload C 4 dX9_monthOf_28 rfl ?_
      refine v_ald (v := mf ((lo + hi + 1) / 2)) C 70 dX9_monthOf_30 (by omega) h70 (ti_in hx34 (by omega) (by omega)) (by rw [ti_cl hx34, show Int.toNat (((lo + hi + 1) / 2 : Nat) : Int) = (lo + hi + 1) / 2 by omega]) ?_
      have qk := hF ((lo + hi + 1) / 2) (by omega)
      refine v_iload_n C 1 dX9_monthOf_31 rfl rfl ?_
      refine b_icmp_gt C 41 dX9_monthOf_32 (by decide) (rfl : Int32.toInt (mf ((lo + hi + 1) / 2)) = _) (rfl : Int32.toInt d = _) (fun c35 => ?_) (fun c35 => ?_)
      · refine v_iload C 4 dX9_monthOf_41 rfl ?_
        refine v_iconst (v := 1) C dX9_monthOf_43 (by decide) ?_
        refine v_isub C dX9_monthOf_44 ?_
        refine v_top (fun x36 ex36 => ?_)
        have hx36 : x36.toInt = ((((lo + hi + 1) / 2 : Nat) : Int) - 1) := by rw [ex36]; exact ti_sub hx34 (show (1 : Int32).toInt = 1 by decide) (by omega) (by omega)
        refine v_istore_n (lv' := [(0, .ref (ad 68)), (1, .int d), (2, .int x2), (3, .int x36), (4, .int x34)]) C [1, 2, 3, 0, 4] dX9_monthOf_45 rfl (by decide) rfl ?_
        refine v_goto C 10 dX9_monthOf_46 (by decide) ?_
        refine v_sub (lv' := [(0, .ref (ad 68)), (1, .int d), (2, .int x2), (3, .int x36)]) [0, 1, 2, 3] rfl ?_
        exact ih lo ((lo + hi + 1) / 2 - 1) x2 x36 (by omega) (by omega) (by omega) hx2 (by rw [hx36]; omega) hl (by rw [show (lo + hi + 1) / 2 - 1 + 1 = (lo + hi + 1) / 2 by omega]; omega)
      · refine v_iload C 4 dX9_monthOf_35 rfl ?_
        refine v_istore_n (lv' := [(0, .ref (ad 68)), (1, .int d), (2, .int x34), (3, .int x3), (4, .int x34)]) C [1, 2, 0, 3, 4] dX9_monthOf_37 rfl (by decide) rfl ?_
        refine v_goto C 46 dX9_monthOf_38 (by decide) ?_
        refine v_goto C 10 dX9_monthOf_46 (by decide) ?_
        refine v_sub (lv' := [(0, .ref (ad 68)), (1, .int d), (2, .int x34), (3, .int x3)]) [0, 1, 2, 3] rfl ?_
        exact ih ((lo + hi + 1) / 2) hi x34 x3 (by omega) (by omega) hhi hx34 hx3 (by omega) hh

set_option maxRecDepth 20000 in
theorem d_monthOf (l : Launch) (G : Gl) (n : Nat) (ad : Nat → Nat) (E : Nat → va_E) (hn : 98 ≤ n) {im ic md : Nat → Int32} (hW : MCal G ad E im ic md) (d : Int32) (hd1 : 0 ≤ d.toInt) (hd2 : d.toInt < YSf md (ic 4).toInt (ic 5).toInt 100)  : CtI l G yX9_monthOf cX9_monthOf 5 .int 2 44 n ad E [.ref (ad 68), .int d] (fun r E' => (∃ k : Nat, k < 1200 ∧ r.toInt = (k : Int) ∧ FKf ic md k ≤ d.toInt ∧ d.toInt < FKf ic md (k + 1)) ∧ MR1 G ad E E' im ic md) := by
  refine CtI.of (by decide) (Nat.le_of_ble_eq_true rfl) (fun X A C => ?_)
  obtain ⟨hic, hP, hM, h69, hk7, mf, h70, hf0, hcnt⟩ := id hW
  have q4 := hP.2.1
  have q5 := hP.2.2.1
  have q6 := hP.2.2.2.1
  have q7 := hP.2.2.2.2.1
  have q8 := hP.2.2.2.2.2
  refine v_sub (lv' := [(0, .ref (ad 68)), (1, .int d)]) [0, 1] rfl ?_
  refine v_aload_n C 0 dX9_monthOf_0 rfl rfl ?_
  refine v_cVv C dX9_monthOf_1 lX9_124 mX9_countDays 68 (by omega) hM (by decide) rfl (d_countDays l G n ad _ hn hW) ⟨by decide, by decide⟩ rfl (Nat.le_of_ble_eq_true rfl) ⟨Nat.zero_le _, Nat.zero_le _⟩ (fun E1 hq2 => ?_)
  obtain ⟨im3, hs3, h73, hW3, ho3⟩ := hq2
  obtain ⟨hic3, _, hM3, h693, hk73, mf3, h703, hf03, hcnt3⟩ := id hW3
  have hF3 := hcnt3 h73
  refine v_iconst (v := 0) C dX9_monthOf_4 (by decide) ?_
  refine v_istore_n (lv' := [(0, .ref (ad 68)), (1, .int d), (2, .int 0)]) C [1, 2, 0] dX9_monthOf_5 rfl (by decide) rfl ?_
  refine v_sipush (v := 1199) C dX9_monthOf_6 (by decide) ?_
  refine v_istore_n (lv' := [(0, .ref (ad 68)), (1, .int d), (2, .int 0), (3, .int 1199)]) C [1, 2, 3, 0] dX9_monthOf_9 rfl (by decide) rfl ?_
  refine lp_mmonth C _ hn hic3 hP hM3 h703 hF3 d (fun k x2 x3 g1 g2 g3 g4 => ?_) 1200 0 1199 0 1199 (by omega) (by omega) (by omega) (show (0 : Int32).toInt = 0 by decide) (show (1199 : Int32).toInt = 1199 by decide) (by rw [FK_0 hP]; exact hd1) (by rw [FK_end hP]; exact hd2)
  refine v_iload_n C 2 dX9_monthOf_49 rfl rfl ?_
  exact v_ret C dX9_monthOf_50 rfl rfl ⟨⟨k, g2, g1, g3, g4⟩, (MR1.trans hs3 ho3 (MR1.refl h73 hW3))⟩

set_option maxRecDepth 20000 in
theorem d_weekday (l : Launch) (G : Gl) (n : Nat) (ad : Nat → Nat) (E : Nat → va_E) (hn : 98 ≤ n) {im ic md : Nat → Int32} (hW : MCal G ad E im ic md) (d : Int32) (hd1 : 0 ≤ d.toInt) (hd2 : d.toInt ≤ 1000000000)  : CtI l G yX9_weekday cX9_weekday 2 .int 0 0 n ad E [.ref (ad 68), .int d] (fun r E' => (r.toInt = (d.toInt + (ic 8).toInt) % (ic 7).toInt) ∧ E = E') := by
  refine CtI.of (by decide) (Nat.le_of_ble_eq_true rfl) (fun X A C => ?_)
  obtain ⟨hic, hP, hM, h69, hk7, mf, h70, hf0, hcnt⟩ := id hW
  have q4 := hP.2.1
  have q5 := hP.2.2.1
  have q6 := hP.2.2.2.1
  have q7 := hP.2.2.2.2.1
  have q8 := hP.2.2.2.2.2
  refine v_sub (lv' := [(0, .ref (ad 68)), (1, .int d)]) [0, 1] rfl ?_
  refine v_iload_n C 1 dX9_weekday_0 rfl rfl ?_
  refine v_aload_n C 0 dX9_weekday_1 rfl rfl ?_
  refine v_geti (v := im 5) C 68 dX9_weekday_2 fX9_138 (by omega) hM rfl rfl ?_
  refine v_iadd C dX9_weekday_5 ?_
  refine v_top (fun x1 ex1 => ?_)
  have hx1 : x1.toInt = (d.toInt + (ic 8).toInt) := by rw [ex1]; exact ti_add (rfl : Int32.toInt d = _) (show (im 5).toInt = (ic 8).toInt by rw [← hic]; rfl) (by omega) (by omega)
  refine v_aload_n C 0 dX9_weekday_6 rfl rfl ?_
  refine v_geti (v := im 4) C 68 dX9_weekday_7 fX9_23 (by omega) hM rfl rfl ?_
  refine v_irem C dX9_weekday_10 (ti_ne (show (im 4).toInt = (ic 7).toInt by rw [← hic]; rfl) (show (0 : Int32).toInt = 0 by decide) (by omega)) ?_
  refine v_top (fun x2 ex2 => ?_)
  have hx2 : x2.toInt = ((d.toInt + (ic 8).toInt) % (ic 7).toInt) := by rw [ex2]; exact ti_rem hx1 (show (im 4).toInt = (ic 7).toInt by rw [← hic]; rfl) (by omega) (by omega)
  exact v_ret C dX9_weekday_11 rfl rfl ⟨hx2, rfl⟩

set_option maxRecDepth 20000 in
theorem d_day (l : Launch) (G : Gl) (n : Nat) (ad : Nat → Nat) (E : Nat → va_E) (hn : 98 ≤ n) {im ic md : Nat → Int32} (hW : MCal G ad E im ic md) (y : Int32) (dt : Int32)  : CtI l G yX9_day cX9_day 3 .int 2 44 n ad E [.ref (ad 68), .int y, .int dt] (fun r E' => (r.toInt = DYf ic md y.toInt dt.toInt) ∧ MR G ad E E' im ic md) := by
  refine CtI.of (by decide) (Nat.le_of_ble_eq_true rfl) (fun X A C => ?_)
  obtain ⟨hic, hP, hM, h69, hk7, mf, h70, hf0, hcnt⟩ := id hW
  have q4 := hP.2.1
  have q5 := hP.2.2.1
  have q6 := hP.2.2.2.1
  have q7 := hP.2.2.2.2.1
  have q8 := hP.2.2.2.2.2
  refine v_sub (lv' := [(0, .ref (ad 68)), (1, .int y), (2, .int dt)]) [0, 1, 2] rfl ?_
  refine v_iload_n C 1 dX9_day_0 rfl rfl ?_
  refine v_iconst (v := 0) C dX9_day_1 (by decide) ?_
  refine v_bipush (v := 99) C dX9_day_2 (by decide) ?_
  refine v_cSp C dX9_day_4 lX9_131 mX9_within (d_within l G n ad _ y 0 99) ⟨by decide, by decide⟩ rfl (Nat.le_of_ble_eq_true rfl) ⟨Nat.zero_le _, Nat.zero_le _⟩ (fun r1 hp2 => ?_)
  rw [(show (0 : Int32).toInt = 0 by decide)] at hp2
  rw [(show (99 : Int32).toInt = 99 by decide)] at hp2
  rcases hp2 with ⟨rfl, hp2⟩ | ⟨rfl, hp2⟩
  · refine b_if_eq C 39 dX9_day_7 (by decide) (show (1 : Int32).toInt = 1 by decide) (fun c3 => absurd c3 (by decide)) (fun c3 => ?_)
    refine v_iload_n C 2 dX9_day_10 rfl rfl ?_
    refine b_if_lt C 39 dX9_day_11 (by decide) (rfl : Int32.toInt dt = _) (fun c4 => ?_) (fun c4 => ?_)
    · refine v_iconst (v := (-1)) C dX9_day_39 (by decide) ?_
      exact v_ret C dX9_day_40 rfl rfl ⟨by rw [show ((-1) : Int32).toInt = (-1) by decide]; unfold DYf; (repeat first | rw [if_pos (by omega)] | rw [if_neg (by omega)]); try omega, (MR.refl hW)⟩
    · refine v_iload_n C 2 dX9_day_14 rfl rfl ?_
      refine v_bipush (v := 100) C dX9_day_15 (by decide) ?_
      refine v_idiv C dX9_day_17 (by decide) ?_
      refine v_top (fun x5 ex5 => ?_)
      have hx5 : x5.toInt = (dt.toInt / 100) := by rw [ex5]; exact ti_div (rfl : Int32.toInt dt = _) (show (100 : Int32).toInt = 100 by decide) (by omega) (by omega)
      refine v_bipush (v := 12) C dX9_day_18 (by decide) ?_
      refine b_icmp_ge C 39 dX9_day_20 (by decide) hx5 (show (12 : Int32).toInt = 12 by decide) (fun c6 => ?_) (fun c6 => ?_)
      · refine v_iconst (v := (-1)) C dX9_day_39 (by decide) ?_
        exact v_ret C dX9_day_40 rfl rfl ⟨by rw [show ((-1) : Int32).toInt = (-1) by decide]; unfold DYf; (repeat first | rw [if_pos (by omega)] | rw [if_neg (by omega)]); try omega, (MR.refl hW)⟩
      · refine v_iload_n C 2 dX9_day_23 rfl rfl ?_
        refine v_bipush (v := 100) C dX9_day_24 (by decide) ?_
        refine v_irem C dX9_day_26 (by decide) ?_
        refine v_top (fun x7 ex7 => ?_)
        have hx7 : x7.toInt = (dt.toInt % 100) := by rw [ex7]; exact ti_rem (rfl : Int32.toInt dt = _) (show (100 : Int32).toInt = 100 by decide) (by omega) (by omega)
        refine v_aload_n C 0 dX9_day_27 rfl rfl ?_
        refine v_iload_n C 1 dX9_day_28 rfl rfl ?_
        refine v_iload_n C 2 dX9_day_29 rfl rfl ?_
        refine v_bipush (v := 100) C dX9_day_30 (by decide) ?_
        refine v_idiv C dX9_day_32 (by decide) ?_
        refine v_top (fun x8 ex8 => ?_)
        have hx8 : x8.toInt = (dt.toInt / 100) := by rw [ex8]; exact ti_div (rfl : Int32.toInt dt = _) (show (100 : Int32).toInt = 100 by decide) (by omega) (by omega)
        refine v_cVp C dX9_day_33 lX9_120 mX9_daysOf 68 (by omega) hM (by decide) rfl (d_daysOf l G n ad _ hn hW y x8 (show Int32.toInt y = ((Int.toNat y.toInt : Nat) : Int) by rw [(rfl : Int32.toInt y = _)]; omega) (show Int32.toInt x8 = ((Int.toNat (dt.toInt / 100) : Nat) : Int) by rw [hx8]; omega) (by omega)) ⟨by decide, by decide⟩ rfl (Nat.le_of_ble_eq_true rfl) ⟨Nat.zero_le _, Nat.zero_le _⟩ (fun r9 hp10 => ?_)
        refine b_icmp_lt C 41 dX9_day_36 (by decide) hx7 hp10 (fun c11 => ?_) (fun c11 => ?_)
        · refine v_aload_n C 0 dX9_day_41 rfl rfl ?_
          refine v_cVv C dX9_day_42 lX9_124 mX9_countDays 68 (by omega) hM (by decide) rfl (d_countDays l G n ad _ hn hW) ⟨by decide, by decide⟩ rfl (Nat.le_of_ble_eq_true rfl) ⟨Nat.zero_le _, Nat.zero_le _⟩ (fun E12 hq13 => ?_)
          obtain ⟨im14, hs14, h714, hW14, ho14⟩ := hq13
          obtain ⟨hic14, _, hM14, h6914, hk714, mf14, h7014, hf014, hcnt14⟩ := id hW14
          have hF14 := hcnt14 h714
          refine v_aload_n C 0 dX9_day_45 rfl rfl ?_
          refine v_getr C 68 dX9_day_46 fX9_26 (by omega) hM14 rfl rfl ?_
          refine v_bipush (v := 12) C dX9_day_49 (by decide) ?_
          refine v_iload_n C 1 dX9_day_51 rfl rfl ?_
          refine v_imul C dX9_day_52 ?_
          refine v_top (fun x15 ex15 => ?_)
          have hx15 : x15.toInt = (12 * y.toInt) := by rw [ex15]; exact ti_mul (show (12 : Int32).toInt = 12 by decide) (rfl : Int32.toInt y = _) (by omega) (by omega)
          refine v_iload_n C 2 dX9_day_53 rfl rfl ?_
          refine v_bipush (v := 100) C dX9_day_54 (by decide) ?_
          refine v_idiv C dX9_day_56 (by decide) ?_
          refine v_top (fun x16 ex16 => ?_)
          have hx16 : x16.toInt = (dt.toInt / 100) := by rw [ex16]; exact ti_div (rfl : Int32.toInt dt = _) (show (100 : Int32).toInt = 100 by decide) (by omega) (by omega)
          refine v_iadd C dX9_day_57 ?_
          refine v_top (fun x17 ex17 => ?_)
          have hx17 : x17.toInt = ((12 * y.toInt) + (dt.toInt / 100)) := by rw [ex17]; exact ti_add hx15 hx16 (by omega) (by omega)
          have eF := hF14 (12 * Int.toNat y.toInt + Int.toNat (dt.toInt / 100)) (by omega)
          rw [FK_of (by omega)] at eF
          have b1 := DI_b (y := Int.toNat y.toInt) hP (m := Int.toNat (dt.toInt / 100)) (by omega)
          have b2 := FD_b hP (y := Int.toNat y.toInt) (m := Int.toNat (dt.toInt / 100)) (by omega) (by omega)
          refine v_ald (v := mf14 (12 * Int.toNat y.toInt + Int.toNat (dt.toInt / 100))) C 70 dX9_day_58 (by omega) h7014 (ti_in hx17 (by omega) (by omega)) (by rw [ti_cl hx17, show Int.toNat ((12 * y.toInt) + (dt.toInt / 100)) = 12 * Int.toNat y.toInt + Int.toNat (dt.toInt / 100) by omega]) ?_
          refine v_iload_n C 2 dX9_day_59 rfl rfl ?_
          refine v_bipush (v := 100) C dX9_day_60 (by decide) ?_
          refine v_irem C dX9_day_62 (by decide) ?_
          refine v_top (fun x18 ex18 => ?_)
          have hx18 : x18.toInt = (dt.toInt % 100) := by rw [ex18]; exact ti_rem (rfl : Int32.toInt dt = _) (show (100 : Int32).toInt = 100 by decide) (by omega) (by omega)
          refine v_iadd C dX9_day_63 ?_
          refine v_top (fun x19 ex19 => ?_)
          have hx19 : x19.toInt = ((mf14 (12 * Int.toNat y.toInt + Int.toNat (dt.toInt / 100))).toInt + (dt.toInt % 100)) := by rw [ex19]; exact ti_add (rfl : Int32.toInt (mf14 (12 * Int.toNat y.toInt + Int.toNat (dt.toInt / 100))) = _) hx18 (by omega) (by omega)
          exact v_ret C dX9_day_64 rfl rfl ⟨by unfold DYf; (repeat first | rw [if_pos (by omega)] | rw [if_neg (by omega)]); try omega, (MR.trans hs14 ho14 (MR.refl hW14))⟩
        · refine v_iconst (v := (-1)) C dX9_day_39 (by decide) ?_
          exact v_ret C dX9_day_40 rfl rfl ⟨by rw [show ((-1) : Int32).toInt = (-1) by decide]; unfold DYf; (repeat first | rw [if_pos (by omega)] | rw [if_neg (by omega)]); try omega, (MR.refl hW)⟩
  · refine b_if_eq C 39 dX9_day_7 (by decide) (show (0 : Int32).toInt = 0 by decide) (fun c20 => ?_) (fun c20 => absurd c20 (by decide))
    refine v_iconst (v := (-1)) C dX9_day_39 (by decide) ?_
    exact v_ret C dX9_day_40 rfl rfl ⟨by rw [show ((-1) : Int32).toInt = (-1) by decide]; unfold DYf; (repeat first | rw [if_pos (by omega)] | rw [if_neg (by omega)]); try omega, (MR.refl hW)⟩

set_option maxRecDepth 20000 in
theorem d_date (l : Launch) (G : Gl) (n : Nat) (ad : Nat → Nat) (E : Nat → va_E) (hn : 98 ≤ n) {im ic md : Nat → Int32} (hW : MCal G ad E im ic md) (d : Int32) (w : Int32)  : CtI l G yX9_date cX9_date 4 .int 4 85 n ad E [.ref (ad 68), .int d, .int w] (fun r E' => (DTp ic md d.toInt w.toInt r.toInt) ∧ MR G ad E E' im ic md) := by
  refine CtI.of (by decide) (Nat.le_of_ble_eq_true rfl) (fun X A C => ?_)
  obtain ⟨hic, hP, hM, h69, hk7, mf, h70, hf0, hcnt⟩ := id hW
  have q4 := hP.2.1
  have q5 := hP.2.2.1
  have q6 := hP.2.2.2.1
  have q7 := hP.2.2.2.2.1
  have q8 := hP.2.2.2.2.2
  refine v_sub (lv' := [(0, .ref (ad 68)), (1, .int d), (2, .int w)]) [0, 1, 2] rfl ?_
  have hy100 := YS_b (a := (ic 4).toInt) (b := (ic 5).toInt) hP.1 100
  refine v_aload_n C 0 dX9_date_0 rfl rfl ?_
  refine v_iload_n C 1 dX9_date_1 rfl rfl ?_
  refine v_cVi C dX9_date_2 lX9_141 mX9_isDay 68 (by omega) hM (by decide) rfl (d_isDay l G n ad _ hn hW d) ⟨by decide, by decide⟩ rfl (Nat.le_of_ble_eq_true rfl) ⟨Nat.zero_le _, Nat.zero_le _⟩ (fun r2 E1 hq3 => ?_)
  obtain ⟨hp4, hq3⟩ := hq3
  obtain ⟨im5, hs5, hW5, ho5⟩ := hq3
  obtain ⟨hic5, _, hM5, h695, hk75, mf5, h705, hf05, hcnt5⟩ := id hW5
  rcases hp4 with ⟨rfl, hp4⟩ | ⟨rfl, hp4⟩
  · refine b_if_ne C 10 dX9_date_5 (by decide) (show (1 : Int32).toInt = 1 by decide) (fun c6 => ?_) (fun c6 => absurd c6 (by decide))
    refine v_aload_n C 0 dX9_date_10 rfl rfl ?_
    refine v_iload_n C 1 dX9_date_11 rfl rfl ?_
    refine v_cVi C dX9_date_12 lX9_145 mX9_monthOf 68 (by omega) hM5 (by decide) rfl (d_monthOf l G n ad _ hn hW5 d (by omega) (by omega)) ⟨by decide, by decide⟩ rfl (Nat.le_of_ble_eq_true rfl) ⟨Nat.zero_le _, Nat.zero_le _⟩ (fun r8 E7 hq9 => ?_)
    obtain ⟨⟨kk, hkk, hrk, hk1, hk2⟩, hq9⟩ := hq9
    obtain ⟨im10, hs10, h710, hW10, ho10⟩ := hq9
    obtain ⟨hic10, _, hM10, h6910, hk710, mf10, h7010, hf010, hcnt10⟩ := id hW10
    have hF10 := hcnt10 h710
    refine v_istore_n (lv' := [(0, .ref (ad 68)), (1, .int d), (2, .int w), (3, .int r8)]) C [1, 2, 3, 0] dX9_date_15 rfl (by decide) rfl ?_
    refine v_iload_n C 2 dX9_date_16 rfl rfl ?_
    have q11v : Int32.toInt w = w.toInt := (rfl : Int32.toInt w = _)
    rcases (show w.toInt = 0 ∨ w.toInt = 1 ∨ w.toInt = 2 ∨ w.toInt = 3 ∨ (w.toInt < 0 ∨ 3 < w.toInt) by omega) with q11 | q11 | q11 | q11 | q11
    · refine v_tableIn (off := 31) C 48 dX9_date_17 (by omega) (by omega) (by rw [q11v, q11]; rfl) (by decide) ?_
      refine v_iload_n C 3 dX9_date_48 rfl rfl ?_
      refine v_bipush (v := 12) C dX9_date_49 (by decide) ?_
      refine v_idiv C dX9_date_51 (by decide) ?_
      refine v_top (fun x12 ex12 => ?_)
      have hx12 : x12.toInt = ((kk : Int) / 12) := by rw [ex12]; exact ti_div hrk (show (12 : Int32).toInt = 12 by decide) (by omega) (by omega)
      exact v_ret C dX9_date_52 rfl rfl ⟨Or.inr ⟨by unfold okDT; omega, kk, hkk, hk1, hk2, by unfold DTf; (repeat first | rw [if_pos (by omega)] | rw [if_neg (by omega)]); try omega⟩, (MR.trans hs5 ho5 (MR.trans hs10 ho10 (MR.refl hW10)))⟩
    · refine v_tableIn (off := 36) C 53 dX9_date_17 (by omega) (by omega) (by rw [q11v, q11]; rfl) (by decide) ?_
      refine v_iload_n C 3 dX9_date_53 rfl rfl ?_
      refine v_bipush (v := 12) C dX9_date_54 (by decide) ?_
      refine v_irem C dX9_date_56 (by decide) ?_
      refine v_top (fun x13 ex13 => ?_)
      have hx13 : x13.toInt = ((kk : Int) % 12) := by rw [ex13]; exact ti_rem hrk (show (12 : Int32).toInt = 12 by decide) (by omega) (by omega)
      exact v_ret C dX9_date_57 rfl rfl ⟨Or.inr ⟨by unfold okDT; omega, kk, hkk, hk1, hk2, by unfold DTf; (repeat first | rw [if_pos (by omega)] | rw [if_neg (by omega)]); try omega⟩, (MR.trans hs5 ho5 (MR.trans hs10 ho10 (MR.refl hW10)))⟩
    · refine v_tableIn (off := 41) C 58 dX9_date_17 (by omega) (by omega) (by rw [q11v, q11]; rfl) (by decide) ?_
      refine v_iload_n C 1 dX9_date_58 rfl rfl ?_
      refine v_aload_n C 0 dX9_date_59 rfl rfl ?_
      refine v_getr C 68 dX9_date_60 fX9_26 (by omega) hM10 rfl rfl ?_
      refine v_iload_n C 3 dX9_date_63 rfl rfl ?_
      refine v_ald (v := mf10 kk) C 70 dX9_date_64 (by omega) h7010 (ti_in hrk (by omega) (by omega)) (by rw [ti_cl hrk, show Int.toNat (kk : Int) = kk by omega]) ?_
      have eF := hF10 kk (by omega)
      have bF := FK_b hP (k := kk) (by omega)
      refine v_isub C dX9_date_65 ?_
      refine v_top (fun x14 ex14 => ?_)
      have hx14 : x14.toInt = (d.toInt - (mf10 kk).toInt) := by rw [ex14]; exact ti_sub (rfl : Int32.toInt d = _) (rfl : Int32.toInt (mf10 kk) = _) (by omega) (by omega)
      exact v_ret C dX9_date_66 rfl rfl ⟨Or.inr ⟨by unfold okDT; omega, kk, hkk, hk1, hk2, by unfold DTf; (repeat first | rw [if_pos (by omega)] | rw [if_neg (by omega)]); try omega⟩, (MR.trans hs5 ho5 (MR.trans hs10 ho10 (MR.refl hW10)))⟩
    · refine v_tableIn (off := 50) C 67 dX9_date_17 (by omega) (by omega) (by rw [q11v, q11]; rfl) (by decide) ?_
      refine v_aload_n C 0 dX9_date_67 rfl rfl ?_
      refine v_iload_n C 1 dX9_date_68 rfl rfl ?_
      refine v_cVp C dX9_date_69 lX9_149 mX9_weekday 68 (by omega) hM10 (by decide) rfl (d_weekday l G n ad _ hn hW10 d (by omega) (by omega)) ⟨by decide, by decide⟩ rfl (Nat.le_of_ble_eq_true rfl) ⟨Nat.zero_le _, Nat.zero_le _⟩ (fun r15 hp16 => ?_)
      exact v_ret C dX9_date_72 rfl rfl ⟨Or.inr ⟨by unfold okDT; omega, kk, hkk, hk1, hk2, by unfold DTf; (repeat first | rw [if_pos (by omega)] | rw [if_neg (by omega)]); try omega⟩, (MR.trans hs5 ho5 (MR.trans hs10 ho10 (MR.refl hW10)))⟩
    · refine v_tableOut C 73 dX9_date_17 (by omega) (by decide) ?_
      refine v_iconst (v := (-1)) C dX9_date_73 (by decide) ?_
      exact v_ret C dX9_date_74 rfl rfl ⟨Or.inl ⟨by unfold okDT; omega, by decide⟩, (MR.trans hs5 ho5 (MR.trans hs10 ho10 (MR.refl hW10)))⟩
  · refine b_if_ne C 10 dX9_date_5 (by decide) (show (0 : Int32).toInt = 0 by decide) (fun c17 => absurd c17 (by decide)) (fun c17 => ?_)
    refine v_iconst (v := (-1)) C dX9_date_8 (by decide) ?_
    exact v_ret C dX9_date_9 rfl rfl ⟨Or.inl ⟨by unfold okDT; omega, by decide⟩, (MR.trans hs5 ho5 (MR.refl hW5))⟩

