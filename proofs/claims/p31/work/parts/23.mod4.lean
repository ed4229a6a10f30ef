set_option maxRecDepth 20000 in
theorem d_later (l : Launch) (G : Gl) (n : Nat) (ad : Nat → Nat) (E : Nat → va_E) (hn : 98 ≤ n) {im ic md : Nat → Int32} (hW : MCal G ad E im ic md) (d : Int32) (m : Int32) (e : Int32) (hd1 : 0 ≤ d.toInt) (hd2 : d.toInt < YSf md (ic 4).toInt (ic 5).toInt 100) (hm1 : -100000 ≤ m.toInt) (hm2 : m.toInt ≤ 100000) (he1 : 0 ≤ e.toInt) (he2 : e.toInt ≤ 2)  : CtI l G yX9_later cX9_later 9 .int 4 85 n ad E [.ref (ad 68), .int d, .int m, .int e] (fun r E' => (∃ k : Nat, k < 1200 ∧ FKf ic md k ≤ d.toInt ∧ d.toInt < FKf ic md (k + 1) ∧ r.toInt = MOf ic md k (d.toInt - FKf ic md k) m.toInt e.toInt) ∧ MR G ad E E' im ic md) := by
  refine CtI.of (by decide) (Nat.le_of_ble_eq_true rfl) (fun X A C => ?_)
  obtain ⟨hic, hP, hM, h69, hk7, mf, h70, hf0, hcnt⟩ := id hW
  have q4 := hP.2.1
  have q5 := hP.2.2.1
  have q6 := hP.2.2.2.1
  have q7 := hP.2.2.2.2.1
  have q8 := hP.2.2.2.2.2
  refine v_sub (lv' := [(0, .ref (ad 68)), (1, .int d), (2, .int m), (3, .int e)]) [0, 1, 2, 3] rfl ?_
  have hy100 := YS_b (a := (ic 4).toInt) (b := (ic 5).toInt) hP.1 100
  refine v_aload_n C 0 dX9_later_0 rfl rfl ?_
  refine v_iload_n C 1 dX9_later_1 rfl rfl ?_
  refine v_cVi C dX9_later_2 lX9_145 mX9_monthOf 68 (by omega) hM (by decide) rfl (d_monthOf l G n ad _ hn hW d (by omega) (by omega)) ⟨by decide, by decide⟩ rfl (Nat.le_of_ble_eq_true rfl) ⟨Nat.zero_le _, Nat.zero_le _⟩ (fun r2 E1 hq3 => ?_)
  obtain ⟨⟨kk, hkk, hrk, hk1, hk2⟩, hq3⟩ := hq3
  obtain ⟨im4, hs4, h74, hW4, ho4⟩ := hq3
  obtain ⟨hic4, _, hM4, h694, hk74, mf4, h704, hf04, hcnt4⟩ := id hW4
  have hF4 := hcnt4 h74
  refine v_istore (lv' := [(0, .ref (ad 68)), (1, .int d), (2, .int m), (3, .int e), (4, .int r2)]) C [1, 2, 3, 4, 0] dX9_later_5 (by decide) rfl ?_
  refine v_iload_n C 1 dX9_later_7 rfl rfl ?_
  refine v_aload_n C 0 dX9_later_8 rfl rfl ?_
  refine v_getr C 68 dX9_later_9 fX9_26 (by omega) hM4 rfl rfl ?_
  refine v_iload C 4 dX9_later_12 rfl ?_
  refine v_ald (v := mf4 kk) C 70 dX9_later_14 (by omega) h704 (ti_in hrk (by omega) (by omega)) (by rw [ti_cl hrk, show Int.toNat (kk : Int) = kk by omega]) ?_
  have eK := hF4 kk (by omega)
  have bK := FK_b hP (k := kk) (by omega)
  have eK1 := FK_next hP kk
  have bKL := LK_b hP kk
  refine v_isub C dX9_later_15 ?_
  refine v_top (fun x5 ex5 => ?_)
  have hx5 : x5.toInt = (d.toInt - (mf4 kk).toInt) := by rw [ex5]; exact ti_sub (rfl : Int32.toInt d = _) (rfl : Int32.toInt (mf4 kk) = _) (by omega) (by omega)
  refine v_istore (lv' := [(0, .ref (ad 68)), (1, .int d), (2, .int m), (3, .int e), (4, .int r2), (5, .int x5)]) C [1, 2, 3, 4, 5, 0] dX9_later_16 (by decide) rfl ?_
  refine v_iload C 4 dX9_later_18 rfl ?_
  refine v_iload_n C 2 dX9_later_20 rfl rfl ?_
  refine v_iadd C dX9_later_21 ?_
  refine v_top (fun x6 ex6 => ?_)
  have hx6 : x6.toInt = ((kk : Int) + m.toInt) := by rw [ex6]; exact ti_add hrk (rfl : Int32.toInt m = _) (by omega) (by omega)
  refine v_istore (lv' := [(0, .ref (ad 68)), (1, .int d), (2, .int m), (3, .int e), (4, .int r2), (5, .int x5), (6, .int x6)]) C [1, 2, 3, 4, 5, 6, 0] dX9_later_22 (by decide) rfl ?_
  refine v_iload C 6 dX9_later_24 rfl ?_
  refine b_if_lt C 37 dX9_later_26 (by decide) hx6 (fun c7 => ?_) (fun c7 => ?_)
  · refine v_iconst (v := (-1)) C dX9_later_37 (by decide) ?_
    exact v_ret C dX9_later_38 rfl rfl ⟨⟨kk, hkk, hk1, hk2, by rw [show (-1 : Int32).toInt = -1 by decide]; unfold MOf; rw [if_pos (by omega)]⟩, (MR.trans hs4 ho4 (MR.refl hW4))⟩
  · refine v_iload C 6 dX9_later_29 rfl ?_
    refine v_sipush (v := 1200) C dX9_later_31 (by decide) ?_
    refine b_icmp_lt C 39 dX9_later_34 (by decide) hx6 (show (1200 : Int32).toInt = 1200 by decide) (fun c8 => ?_) (fun c8 => ?_)
    · obtain ⟨T, hT⟩ : ∃ T : Nat, x6.toInt = (T : Int) := ⟨x6.toInt.toNat, by omega⟩
      have hTe : ((kk : Int) + m.toInt).toNat = T := by omega
      have eT := hF4 T (by omega)
      have eT1 := hF4 (T + 1) (by omega)
      have eN := FK_next hP T
      have bT := FK_b hP (k := T) (by omega)
      have bL := LK_b hP T
      have bE := FK_lt hP (k := T) (by omega)
      refine v_aload_n C 0 dX9_later_39 rfl rfl ?_
      refine v_getr C 68 dX9_later_40 fX9_26 (by omega) hM4 rfl rfl ?_
      refine v_iload C 6 dX9_later_43 rfl ?_
      refine v_iconst (v := 1) C dX9_later_45 (by decide) ?_
      refine v_iadd C dX9_later_46 ?_
      refine v_top (fun x9 ex9 => ?_)
      have hx9 : x9.toInt = ((T : Int) + 1) := by rw [ex9]; exact ti_add hT (show (1 : Int32).toInt = 1 by decide) (by omega) (by omega)
      refine v_ald (v := mf4 (T + 1)) C 70 dX9_later_47 (by omega) h704 (ti_in hx9 (by omega) (by omega)) (by rw [ti_cl hx9, show Int.toNat ((T : Int) + 1) = T + 1 by omega]) ?_
      refine v_aload_n C 0 dX9_later_48 rfl rfl ?_
      refine v_getr C 68 dX9_later_49 fX9_26 (by omega) hM4 rfl rfl ?_
      refine v_iload C 6 dX9_later_52 rfl ?_
      refine v_ald (v := mf4 T) C 70 dX9_later_54 (by omega) h704 (ti_in hT (by omega) (by omega)) (by rw [ti_cl hT, show Int.toNat (T : Int) = T by omega]) ?_
      refine v_isub C dX9_later_55 ?_
      refine v_top (fun x10 ex10 => ?_)
      have hx10 : x10.toInt = ((mf4 (T + 1)).toInt - (mf4 T).toInt) := by rw [ex10]; exact ti_sub (rfl : Int32.toInt (mf4 (T + 1)) = _) (rfl : Int32.toInt (mf4 T) = _) (by omega) (by omega)
      have hx10 : x10.toInt = (LKf ic md T) := hx10.trans (by omega)
      refine v_istore (lv' := [(0, .ref (ad 68)), (1, .int d), (2, .int m), (3, .int e), (4, .int r2), (5, .int x5), (6, .int x6), (7, .int x10)]) C [1, 2, 3, 4, 5, 6, 7, 0] dX9_later_56 (by decide) rfl ?_
      refine v_iload C 5 dX9_later_58 rfl ?_
      refine v_iload C 7 dX9_later_60 rfl ?_
      refine b_icmp_ge C 76 dX9_later_62 (by decide) hx5 hx10 (fun c11 => ?_) (fun c11 => ?_)
      · refine v_iload_n C 3 dX9_later_76 rfl rfl ?_
        refine b_if_ne C 92 dX9_later_77 (by decide) (rfl : Int32.toInt e = _) (fun c12 => ?_) (fun c12 => ?_)
        · refine v_aload_n C 0 dX9_later_92 rfl rfl ?_
          refine v_getr C 68 dX9_later_93 fX9_26 (by omega) hM4 rfl rfl ?_
          refine v_iload C 6 dX9_later_96 rfl ?_
          refine v_ald (v := mf4 T) C 70 dX9_later_98 (by omega) h704 (ti_in hT (by omega) (by omega)) (by rw [ti_cl hT, show Int.toNat (T : Int) = T by omega]) ?_
          refine v_iload C 5 dX9_later_99 rfl ?_
          refine v_iadd C dX9_later_101 ?_
          refine v_top (fun x13 ex13 => ?_)
          have hx13 : x13.toInt = ((mf4 T).toInt + (d.toInt - (mf4 kk).toInt)) := by rw [ex13]; exact ti_add (rfl : Int32.toInt (mf4 T) = _) hx5 (by omega) (by omega)
          refine v_istore (lv' := [(0, .ref (ad 68)), (1, .int d), (2, .int m), (3, .int e), (4, .int r2), (5, .int x5), (6, .int x6), (7, .int x10), (8, .int x13)]) C [1, 2, 3, 4, 5, 6, 7, 8, 0] dX9_later_102 (by decide) rfl ?_
          refine v_iload_n C 3 dX9_later_104 rfl rfl ?_
          refine v_iconst (v := 1) C dX9_later_105 (by decide) ?_
          refine b_icmp_ne C 123 dX9_later_106 (by decide) (rfl : Int32.toInt e = _) (show (1 : Int32).toInt = 1 by decide) (fun c14 => ?_) (fun c14 => ?_)
          · refine v_iconst (v := (-1)) C dX9_later_123 (by decide) ?_
            exact v_ret C dX9_later_124 rfl rfl ⟨⟨kk, hkk, hk1, hk2, by rw [show (-1 : Int32).toInt = -1 by decide]; unfold MOf; rw [if_neg (by omega), hTe]; (repeat first | rw [if_pos (by omega)] | rw [if_neg (by omega)]); try omega⟩, (MR.trans hs4 ho4 (MR.refl hW4))⟩
          · refine v_aload_n C 0 dX9_later_109 rfl rfl ?_
            refine v_iload C 8 dX9_later_110 rfl ?_
            refine v_cVi C dX9_later_112 lX9_141 mX9_isDay 68 (by omega) hM4 (by decide) rfl (d_isDay l G n ad _ hn hW4 x13) ⟨by decide, by decide⟩ rfl (Nat.le_of_ble_eq_true rfl) ⟨Nat.zero_le _, Nat.zero_le _⟩ (fun r16 E15 hq17 => ?_)
            obtain ⟨hp18, hq17⟩ := hq17
            obtain ⟨im19, hs19, hW19, ho19⟩ := hq17
            obtain ⟨hic19, _, hM19, h6919, hk719, mf19, h7019, hf019, hcnt19⟩ := id hW19
            rcases hp18 with ⟨rfl, hp18⟩ | ⟨rfl, hp18⟩
            · refine b_if_eq C 123 dX9_later_115 (by decide) (show (1 : Int32).toInt = 1 by decide) (fun c20 => absurd c20 (by decide)) (fun c20 => ?_)
              refine v_iload C 8 dX9_later_118 rfl ?_
              refine v_goto C 124 dX9_later_120 (by decide) ?_
              exact v_ret C dX9_later_124 rfl rfl ⟨⟨kk, hkk, hk1, hk2, by unfold MOf; rw [if_neg (by omega), hTe]; (repeat first | rw [if_pos (by omega)] | rw [if_neg (by omega)]); try omega⟩, (MR.trans hs4 ho4 (MR.trans hs19 ho19 (MR.refl hW19)))⟩
            · refine b_if_eq C 123 dX9_later_115 (by decide) (show (0 : Int32).toInt = 0 by decide) (fun c21 => ?_) (fun c21 => absurd c21 (by decide))
              refine v_iconst (v := (-1)) C dX9_later_123 (by decide) ?_
              exact v_ret C dX9_later_124 rfl rfl ⟨⟨kk, hkk, hk1, hk2, by rw [show (-1 : Int32).toInt = -1 by decide]; unfold MOf; rw [if_neg (by omega), hTe]; (repeat first | rw [if_pos (by omega)] | rw [if_neg (by omega)]); try omega⟩, (MR.trans hs4 ho4 (MR.trans hs19 ho19 (MR.refl hW19)))⟩
        · refine v_aload_n C 0 dX9_later_80 rfl rfl ?_
          refine v_getr C 68 dX9_later_81 fX9_26 (by omega) hM4 rfl rfl ?_
          refine v_iload C 6 dX9_later_84 rfl ?_
          refine v_iconst (v := 1) C dX9_later_86 (by decide) ?_
          refine v_iadd C dX9_later_87 ?_
          refine v_top (fun x22 ex22 => ?_)
          have hx22 : x22.toInt = ((T : Int) + 1) := by rw [ex22]; exact ti_add hT (show (1 : Int32).toInt = 1 by decide) (by omega) (by omega)
          refine v_ald (v := mf4 (T + 1)) C 70 dX9_later_88 (by omega) h704 (ti_in hx22 (by omega) (by omega)) (by rw [ti_cl hx22, show Int.toNat ((T : Int) + 1) = T + 1 by omega]) ?_
          refine v_iconst (v := 1) C dX9_later_89 (by decide) ?_
          refine v_isub C dX9_later_90 ?_
          refine v_top (fun x23 ex23 => ?_)
          have hx23 : x23.toInt = ((mf4 (T + 1)).toInt - 1) := by rw [ex23]; exact ti_sub (rfl : Int32.toInt (mf4 (T + 1)) = _) (show (1 : Int32).toInt = 1 by decide) (by omega) (by omega)
          exact v_ret C dX9_later_91 rfl rfl ⟨⟨kk, hkk, hk1, hk2, by unfold MOf; rw [if_neg (by omega), hTe]; (repeat first | rw [if_pos (by omega)] | rw [if_neg (by omega)]); try omega⟩, (MR.trans hs4 ho4 (MR.refl hW4))⟩
      · refine v_aload_n C 0 dX9_later_65 rfl rfl ?_
        refine v_getr C 68 dX9_later_66 fX9_26 (by omega) hM4 rfl rfl ?_
        refine v_iload C 6 dX9_later_69 rfl ?_
        refine v_ald (v := mf4 T) C 70 dX9_later_71 (by omega) h704 (ti_in hT (by omega) (by omega)) (by rw [ti_cl hT, show Int.toNat (T : Int) = T by omega]) ?_
        refine v_iload C 5 dX9_later_72 rfl ?_
        refine v_iadd C dX9_later_74 ?_
        refine v_top (fun x24 ex24 => ?_)
        have hx24 : x24.toInt = ((mf4 T).toInt + (d.toInt - (mf4 kk).toInt)) := by rw [ex24]; exact ti_add (rfl : Int32.toInt (mf4 T) = _) hx5 (by omega) (by omega)
        exact v_ret C dX9_later_75 rfl rfl ⟨⟨kk, hkk, hk1, hk2, by unfold MOf; rw [if_neg (by omega), hTe]; (repeat first | rw [if_pos (by omega)] | rw [if_neg (by omega)]); try omega⟩, (MR.trans hs4 ho4 (MR.refl hW4))⟩
    · refine v_iconst (v := (-1)) C dX9_later_37 (by decide) ?_
      exact v_ret C dX9_later_38 rfl rfl ⟨⟨kk, hkk, hk1, hk2, by rw [show (-1 : Int32).toInt = -1 by decide]; unfold MOf; rw [if_pos (by omega)]⟩, (MR.trans hs4 ho4 (MR.refl hW4))⟩

set_option maxRecDepth 20000 in
theorem d_months (l : Launch) (G : Gl) (n : Nat) (ad : Nat → Nat) (E : Nat → va_E) (hn : 98 ≤ n) {im ic md : Nat → Int32} (hW : MCal G ad E im ic md) (d : Int32) (m : Int32) (e : Int32)  : CtI l G yX9_months cX9_months 5 .int 5 113 n ad E [.ref (ad 68), .int d, .int m, .int e] (fun r E' => (MOp ic md d.toInt m.toInt e.toInt r.toInt) ∧ MR G ad E E' im ic md) := by
  refine CtI.of (by decide) (Nat.le_of_ble_eq_true rfl) (fun X A C => ?_)
  obtain ⟨hic, hP, hM, h69, hk7, mf, h70, hf0, hcnt⟩ := id hW
  have q4 := hP.2.1
  have q5 := hP.2.2.1
  have q6 := hP.2.2.2.1
  have q7 := hP.2.2.2.2.1
  have q8 := hP.2.2.2.2.2
  refine v_sub (lv' := [(0, .ref (ad 68)), (1, .int d), (2, .int m), (3, .int e)]) [0, 1, 2, 3] rfl ?_
  have hy100 := YS_b (a := (ic 4).toInt) (b := (ic 5).toInt) hP.1 100
  refine v_aload_n C 0 dX9_months_0 rfl rfl ?_
  refine v_iload_n C 1 dX9_months_1 rfl rfl ?_
  refine v_cVi C dX9_months_2 lX9_141 mX9_isDay 68 (by omega) hM (by decide) rfl (d_isDay l G n ad _ hn hW d) ⟨by decide, by decide⟩ rfl (Nat.le_of_ble_eq_true rfl) ⟨Nat.zero_le _, Nat.zero_le _⟩ (fun r2 E1 hq3 => ?_)
  obtain ⟨hp4, hq3⟩ := hq3
  obtain ⟨im5, hs5, hW5, ho5⟩ := hq3
  obtain ⟨hic5, _, hM5, h695, hk75, mf5, h705, hf05, hcnt5⟩ := id hW5
  rcases hp4 with ⟨rfl, hp4⟩ | ⟨rfl, hp4⟩
  · refine b_if_eq C 30 dX9_months_5 (by decide) (show (1 : Int32).toInt = 1 by decide) (fun c6 => absurd c6 (by decide)) (fun c6 => ?_)
    refine v_iload_n C 2 dX9_months_8 rfl rfl ?_
    refine v_sipush (v := (-9999)) C dX9_months_9 (by decide) ?_
    refine v_sipush (v := 9999) C dX9_months_12 (by decide) ?_
    refine v_cSp C dX9_months_15 lX9_131 mX9_within (d_within l G n ad _ m (-9999) 9999) ⟨by decide, by decide⟩ rfl (Nat.le_of_ble_eq_true rfl) ⟨Nat.zero_le _, Nat.zero_le _⟩ (fun r7 hp8 => ?_)
    rw [(show ((-9999) : Int32).toInt = (-9999) by decide)] at hp8
    rw [(show (9999 : Int32).toInt = 9999 by decide)] at hp8
    rcases hp8 with ⟨rfl, hp8⟩ | ⟨rfl, hp8⟩
    · refine b_if_eq C 30 dX9_months_18 (by decide) (show (1 : Int32).toInt = 1 by decide) (fun c9 => absurd c9 (by decide)) (fun c9 => ?_)
      refine v_iload_n C 3 dX9_months_21 rfl rfl ?_
      refine v_iconst (v := 0) C dX9_months_22 (by decide) ?_
      refine v_iconst (v := 2) C dX9_months_23 (by decide) ?_
      refine v_cSp C dX9_months_24 lX9_131 mX9_within (d_within l G n ad _ e 0 2) ⟨by decide, by decide⟩ rfl (Nat.le_of_ble_eq_true rfl) ⟨Nat.zero_le _, Nat.zero_le _⟩ (fun r10 hp11 => ?_)
      rw [(show (0 : Int32).toInt = 0 by decide)] at hp11
      rw [(show (2 : Int32).toInt = 2 by decide)] at hp11
      rcases hp11 with ⟨rfl, hp11⟩ | ⟨rfl, hp11⟩
      · refine b_if_ne C 32 dX9_months_27 (by decide) (show (1 : Int32).toInt = 1 by decide) (fun c12 => ?_) (fun c12 => absurd c12 (by decide))
        refine v_aload_n C 0 dX9_months_32 rfl rfl ?_
        refine v_iload_n C 1 dX9_months_33 rfl rfl ?_
        refine v_iload_n C 2 dX9_months_34 rfl rfl ?_
        refine v_iload_n C 3 dX9_months_35 rfl rfl ?_
        refine v_cVi C dX9_months_36 lX9_152 mX9_later 68 (by omega) hM5 (by decide) rfl (d_later l G n ad _ hn hW5 d m e (by omega) (by omega) (by omega) (by omega) (by omega) (by omega)) ⟨by decide, by decide⟩ rfl (Nat.le_of_ble_eq_true rfl) ⟨Nat.zero_le _, Nat.zero_le _⟩ (fun r14 E13 hq15 => ?_)
        obtain ⟨⟨kk, hkk, hk1, hk2, hro⟩, hq15⟩ := hq15
        obtain ⟨im16, hs16, hW16, ho16⟩ := hq15
        obtain ⟨hic16, _, hM16, h6916, hk716, mf16, h7016, hf016, hcnt16⟩ := id hW16
        have bM := MO_b hP (k := kk) (o := d.toInt - FKf ic md kk) (n := m.toInt) (e := e.toInt) (by omega)
        refine v_istore (lv' := [(0, .ref (ad 68)), (1, .int d), (2, .int m), (3, .int e), (4, .int r14)]) C [1, 2, 3, 4, 0] dX9_months_39 (by decide) rfl ?_
        refine v_iload C 4 dX9_months_41 rfl ?_
        refine b_if_ge C 51 dX9_months_43 (by decide) hro (fun c17 => ?_) (fun c17 => ?_)
        · refine v_iload C 4 dX9_months_51 rfl ?_
          exact v_ret C dX9_months_53 rfl rfl ⟨Or.inr ⟨by unfold okMO; omega, kk, hkk, hk1, hk2, by (repeat first | rw [if_pos (by omega)] | rw [if_neg (by omega)]); try omega⟩, (MR.trans hs5 ho5 (MR.trans hs16 ho16 (MR.refl hW16)))⟩
        · refine v_bipush (v := (-6)) C dX9_months_46 (by decide) ?_
          refine v_goto C 53 dX9_months_48 (by decide) ?_
          exact v_ret C dX9_months_53 rfl rfl ⟨Or.inr ⟨by unfold okMO; omega, kk, hkk, hk1, hk2, by rw [show ((-6) : Int32).toInt = (-6) by decide]; (repeat first | rw [if_pos (by omega)] | rw [if_neg (by omega)]); try omega⟩, (MR.trans hs5 ho5 (MR.trans hs16 ho16 (MR.refl hW16)))⟩
      · refine b_if_ne C 32 dX9_months_27 (by decide) (show (0 : Int32).toInt = 0 by decide) (fun c18 => absurd c18 (by decide)) (fun c18 => ?_)
        refine v_iconst (v := (-1)) C dX9_months_30 (by decide) ?_
        exact v_ret C dX9_months_31 rfl rfl ⟨Or.inl ⟨by unfold okMO; omega, by decide⟩, (MR.trans hs5 ho5 (MR.refl hW5))⟩
    · refine b_if_eq C 30 dX9_months_18 (by decide) (show (0 : Int32).toInt = 0 by decide) (fun c19 => ?_) (fun c19 => absurd c19 (by decide))
      refine v_iconst (v := (-1)) C dX9_months_30 (by decide) ?_
      exact v_ret C dX9_months_31 rfl rfl ⟨Or.inl ⟨by unfold okMO; omega, by decide⟩, (MR.trans hs5 ho5 (MR.refl hW5))⟩
  · refine b_if_eq C 30 dX9_months_5 (by decide) (show (0 : Int32).toInt = 0 by decide) (fun c20 => ?_) (fun c20 => absurd c20 (by decide))
    refine v_iconst (v := (-1)) C dX9_months_30 (by decide) ?_
    exact v_ret C dX9_months_31 rfl rfl ⟨Or.inl ⟨by unfold okMO; omega, by decide⟩, (MR.trans hs5 ho5 (MR.refl hW5))⟩

set_option maxRecDepth 20000 in
theorem lp_nthOf {X : Mx} {l : Launch} {G : Gl} {A : Nat → Prop} {Q : State → Prop} {n : Nat} {ad : Nat → Nat} (C : Cx X l G A "OddHoursModel" cX9_nthOf 7 (some .int) (rmx 2 44 0 0)) (E : Nat → va_E) (hn : 98 ≤ n) {im ic md mf : Nat → Int32} (hW : MCal G ad E im ic md) (h7 : im 7 = 1) (hic : icm im = ic) (hP : CalP ic md) (hM : E 68 = ob 9 (rX9 ad) im) (h70 : E 70 = aI G 1201 mf) (hF : ∀ k, k < 1201 → (mf k).toInt = FKf ic md k) (x1 wd nn : Int32) {k : Nat} (hx1 : x1.toInt = (k : Int)) (hk : k < 1200) (hw1 : 0 ≤ wd.toInt) (hw2 : wd.toInt < (ic 7).toInt) (hn1 : 0 ≤ nn.toInt) (hn2 : nn.toInt ≤ 4)
    (kont : ∀ (x4 x5 x6 : Int32), x4.toInt = NWf ic md k wd.toInt nn.toInt → V X G A 7 Q n ad 0 0 E 70 [(0, .ref (ad 68)), (1, .int x1), (2, .int wd), (3, .int nn), (4, .int x4), (5, .int x5), (6, .int x6)] []) :
    ∀ (t o c : Nat) (p : Int) (x4 x5 x6 : Int32), (o : Int) + (t : Int) = LKf ic md k → x6.toInt = FKf ic md k + (o : Int) → x5.toInt = (c : Int) → c ≤ o → NOf ic md k wd.toInt nn.toInt c p x4.toInt → p - (ic 7).toInt < (o : Int) → (o : Int) ≤ p → V X G A 7 Q n ad 0 0 E 18 [(0, .ref (ad 68)), (1, .int x1), (2, .int wd), (3, .int nn), (4, .int x4), (5, .int x5), (6, .int x6)] [] := by
  intro t
  induction t with
  | zero =>
    intro o c p x4 x5 x6 ht hx6 hx5 hco hN hp1 hp2
    have q7 := hP.2.2.2.2.1
    have q8 := hP.2.2.2.2.2
    have bF := FK_b hP (k := k) (by omega)
    have bL := LK_b hP k
    have eN := FK_next hP k
    refine v_iload C 6 dX9_nthOf_18 rfl ?_
    refine v_aload_n C 0 dX9_nthOf_20 rfl rfl ?_
    refine v_getr C 68 dX9_nthOf_21 fX9_26 (by omega) hM rfl rfl ?_
    refine v_iload_n C 1 dX9_nthOf_24 rfl rfl ?_
    refine v_iconst (v := 1) C dX9_nthOf_25 (by decide) ?_
    refine v_iadd C dX9_nthOf_26 ?_
    refine v_top (fun x31 ex31 => ?_)
    have hx31 : x31.toInt = ((k : Int) + 1) := by rw [ex31]; exact ti_add hx1 (show (1 : Int32).toInt = 1 by decide) (by omega) (by omega)
    refine v_ald (v := mf (k + 1)) C 70 dX9_nthOf_27 (by omega) h70 (ti_in hx31 (by omega) (by omega)) (by rw [ti_cl hx31, show Int.toNat ((k : Int) + 1) = k + 1 by omega]) ?_
    have q1 := hF (k + 1) (by omega)
    refine b_icmp_ge C 70 dX9_nthOf_28 (by decide) hx6 (rfl : Int32.toInt (mf (k + 1)) = _) (fun c32 => ?_) (fun c32 => by exfalso; omega)
    exact kont x4 x5 x6 (NO_end (by omega) hn1 hN (by omega) (by omega))
  | succ t ih =>
    intro o c p x4 x5 x6 ht hx6 hx5 hco hN hp1 hp2
    have q7 := hP.2.2.2.2.1
    have q8 := hP.2.2.2.2.2
    have bF := FK_b hP (k := k) (by omega)
    have bL := LK_b hP k
    have eN := FK_next hP k
    refine v_iload C 6 dX9_nthOf_18 rfl ?_
    refine v_aload_n C 0 dX9_nthOf_20 rfl rfl ?_
    refine v_getr C 68 dX9_nthOf_21 fX9_26 (by omega) hM rfl rfl ?_
    refine v_iload_n C 1 dX9_nthOf_24 rfl rfl ?_
    refine v_iconst (v := 1) C dX9_nthOf_25 (by decide) ?_
    refine v_iadd C dX9_nthOf_26 ?_
    refine v_top (fun x31 ex31 => ?_)
    have hx31 : x31.toInt = ((k : Int) + 1) := by rw [ex31]; exact ti_add hx1 (show (1 : Int32).toInt = 1 by decide) (by omega) (by omega)
    refine v_ald (v := mf (k + 1)) C 70 dX9_nthOf_27 (by omega) h70 (ti_in hx31 (by omega) (by omega)) (by rw [ti_cl hx31, show Int.toNat ((k : Int) + 1) = k + 1 by omega]) ?_
    have q1 := hF (k + 1) (by omega)
    refine b_icmp_ge C 70 dX9_nthOf_28 (by decide) hx6 (rfl : Int32.toInt (mf (k + 1)) = _) (fun c32 => by exfalso; omega) (fun c32 => ?_)
    refine v_aload_n C 0 dX9_nthOf_31 rfl rfl ?_
    refine v_iload C 6 dX9_nthOf_32 rfl ?_
    refine v_cVp C dX9_nthOf_34 lX9_149 mX9_weekday 68 (by omega) hM (by decide) rfl (d_weekday l G n ad _ hn hW x6 (by omega) (by omega)) ⟨by decide, by decide⟩ rfl (Nat.le_of_ble_eq_true rfl) ⟨Nat.zero_le _, Nat.zero_le _⟩ (fun r33 hp34 => ?_)
    rw [hx6] at hp34
    refine v_iload_n C 2 dX9_nthOf_37 rfl rfl ?_
    refine b_icmp_ne C 64 dX9_nthOf_38 (by decide) hp34 (rfl : Int32.toInt wd = _) (fun c35 => ?_) (fun c35 => ?_)
    · obtain ⟨x36, ex36⟩ : ∃ y : Int32, y = x6 + 1 := ⟨_, rfl⟩
      have hx36 : x36.toInt = ((FKf ic md k + (o : Int)) + 1) := by rw [ex36]; exact ti_add hx6 (show (1 : Int32).toInt = 1 by decide) (by omega) (by omega)
      refine v_iinc (v := x36) (lv' := [(0, .ref (ad 68)), (1, .int x1), (2, .int wd), (3, .int nn), (4, .int x4), (5, .int x5), (6, .int x36)]) C 6 [1, 2, 3, 4, 5, 6, 0] dX9_nthOf_64 rfl (ex36.symm) (by decide) rfl ?_
      refine v_goto C 18 dX9_nthOf_67 (by decide) ?_
      exact ih (o + 1) c p x4 x5 x36 (by omega) (by rw [hx36]; omega) hx5 (by omega) hN (by omega) (by have h9 := hN.2.1; by_cases q : (o : Int) = p; (rw [← q] at h9; omega); omega)
    · refine v_iload_n C 3 dX9_nthOf_41 rfl rfl ?_
      refine v_iconst (v := 4) C dX9_nthOf_42 (by decide) ?_
      refine b_icmp_eq C 52 dX9_nthOf_43 (by decide) (rfl : Int32.toInt nn = _) (show (4 : Int32).toInt = 4 by decide) (fun c37 => ?_) (fun c37 => ?_)
      · refine v_iload C 6 dX9_nthOf_52 rfl ?_
        refine v_goto C 59 dX9_nthOf_54 (by decide) ?_
        refine v_istore (lv' := [(0, .ref (ad 68)), (1, .int x1), (2, .int wd), (3, .int nn), (4, .int x6), (5, .int x5), (6, .int x6)]) C [1, 2, 3, 4, 0, 5, 6] dX9_nthOf_59 (by decide) rfl ?_
        obtain ⟨x38, ex38⟩ : ∃ y : Int32, y = x5 + 1 := ⟨_, rfl⟩
        have hx38 : x38.toInt = ((c : Int) + 1) := by rw [ex38]; exact ti_add hx5 (show (1 : Int32).toInt = 1 by decide) (by omega) (by omega)
        refine v_iinc (v := x38) (lv' := [(0, .ref (ad 68)), (1, .int x1), (2, .int wd), (3, .int nn), (4, .int x6), (5, .int x38), (6, .int x6)]) C 5 [1, 2, 3, 4, 5, 0, 6] dX9_nthOf_61 rfl (ex38.symm) (by decide) rfl ?_
        obtain ⟨x39, ex39⟩ : ∃ y : Int32, y = x6 + 1 := ⟨_, rfl⟩
        have hx39 : x39.toInt = ((FKf ic md k + (o : Int)) + 1) := by rw [ex39]; exact ti_add hx6 (show (1 : Int32).toInt = 1 by decide) (by omega) (by omega)
        refine v_iinc (v := x39) (lv' := [(0, .ref (ad 68)), (1, .int x1), (2, .int wd), (3, .int nn), (4, .int x6), (5, .int x38), (6, .int x39)]) C 6 [1, 2, 3, 4, 5, 6, 0] dX9_nthOf_64 rfl (ex39.symm) (by decide) rfl ?_
        refine v_goto C 18 dX9_nthOf_67 (by decide) ?_
        have hop : (o : Int) = p := by have h9 := hN.2.1; have h8 := emod_one (a := FKf ic md k + (o : Int) + (ic 8).toInt) (b := FKf ic md k + p + (ic 8).toInt) (m := (ic 7).toInt) (by omega) (by omega) (by omega) (by omega); omega
        exact ih (o + 1) (c + 1) (p + (ic 7).toInt) x6 x38 x39 (by omega) (by rw [hx39]; omega) (by rw [hx38]; omega) (by omega) (NO_s hN (by rw [if_pos (by omega)]; omega)) (by omega) (by omega)
      · refine v_iload C 5 dX9_nthOf_46 rfl ?_
        refine v_iload_n C 3 dX9_nthOf_48 rfl rfl ?_
        refine b_icmp_ne C 57 dX9_nthOf_49 (by decide) hx5 (rfl : Int32.toInt nn = _) (fun c40 => ?_) (fun c40 => ?_)
        · refine v_iload C 4 dX9_nthOf_57 rfl ?_
          refine v_istore (lv' := [(0, .ref (ad 68)), (1, .int x1), (2, .int wd), (3, .int nn), (4, .int x4), (5, .int x5), (6, .int x6)]) C [1, 2, 3, 4, 0, 5, 6] dX9_nthOf_59 (by decide) rfl ?_
          obtain ⟨x41, ex41⟩ : ∃ y : Int32, y = x5 + 1 := ⟨_, rfl⟩
          have hx41 : x41.toInt = ((c : Int) + 1) := by rw [ex41]; exact ti_add hx5 (show (1 : Int32).toInt = 1 by decide) (by omega) (by omega)
          refine v_iinc (v := x41) (lv' := [(0, .ref (ad 68)), (1, .int x1), (2, .int wd), (3, .int nn), (4, .int x4), (5, .int x41), (6, .int x6)]) C 5 [1, 2, 3, 4, 5, 0, 6] dX9_nthOf_61 rfl (ex41.symm) (by decide) rfl ?_
          obtain ⟨x42, ex42⟩ : ∃ y : Int32, y = x6 + 1 := ⟨_, rfl⟩
          have hx42 : x42.toInt = ((FKf ic md k + (o : Int)) + 1) := by rw [ex42]; exact ti_add hx6 (show (1 : Int32).toInt = 1 by decide) (by omega) (by omega)
          refine v_iinc (v := x42) (lv' := [(0, .ref (ad 68)), (1, .int x1), (2, .int wd), (3, .int nn), (4, .int x4), (5, .int x41), (6, .int x42)]) C 6 [1, 2, 3, 4, 5, 6, 0] dX9_nthOf_64 rfl (ex42.symm) (by decide) rfl ?_
          refine v_goto C 18 dX9_nthOf_67 (by decide) ?_
          have hop : (o : Int) = p := by have h9 := hN.2.1; have h8 := emod_one (a := FKf ic md k + (o : Int) + (ic 8).toInt) (b := FKf ic md k + p + (ic 8).toInt) (m := (ic 7).toInt) (by omega) (by omega) (by omega) (by omega); omega
          exact ih (o + 1) (c + 1) (p + (ic 7).toInt) x4 x41 x42 (by omega) (by rw [hx42]; omega) (by rw [hx41]; omega) (by omega) (NO_s hN (by rw [if_neg (by omega)])) (by omega) (by omega)
        · refine v_iload C 6 dX9_nthOf_52 rfl ?_
          refine v_goto C 59 dX9_nthOf_54 (by decide) ?_
          refine v_istore (lv' := [(0, .ref (ad 68)), (1, .int x1), (2, .int wd), (3, .int nn), (4, .int x6), (5, .int x5), (6, .int x6)]) C [1, 2, 3, 4, 0, 5, 6] dX9_nthOf_59 (by decide) rfl ?_
          obtain ⟨x43, ex43⟩ : ∃ y : Int32, y = x5 + 1 := ⟨_, rfl⟩
          have hx43 : x43.toInt = ((c : Int) + 1) := by rw [ex43]; exact ti_add hx5 (show (1 : Int32).toInt = 1 by decide) (by omega) (by omega)
          refine v_iinc (v := x43) (lv' := [(0, .ref (ad 68)), (1, .int x1), (2, .int wd), (3, .int nn), (4, .int x6), (5, .int x43), (6, .int x6)]) C 5 [1, 2, 3, 4, 5, 0, 6] dX9_nthOf_61 rfl (ex43.symm) (by decide) rfl ?_
          obtain ⟨x44, ex44⟩ : ∃ y : Int32, y = x6 + 1 := ⟨_, rfl⟩
          have hx44 : x44.toInt = ((FKf ic md k + (o : Int)) + 1) := by rw [ex44]; exact ti_add hx6 (show (1 : Int32).toInt = 1 by decide) (by omega) (by omega)
          refine v_iinc (v := x44) (lv' := [(0, .ref (ad 68)), (1, .int x1), (2, .int wd), (3, .int nn), (4, .int x6), (5, .int x43), (6, .int x44)]) C 6 [1, 2, 3, 4, 5, 6, 0] dX9_nthOf_64 rfl (ex44.symm) (by decide) rfl ?_
          refine v_goto C 18 dX9_nthOf_67 (by decide) ?_
          have hop : (o : Int) = p := by have h9 := hN.2.1; have h8 := emod_one (a := FKf ic md k + (o : Int) + (ic 8).toInt) (b := FKf ic md k + p + (ic 8).toInt) (m := (ic 7).toInt) (by omega) (by omega) (by omega) (by omega); omega
          exact ih (o + 1) (c + 1) (p + (ic 7).toInt) x6 x43 x44 (by omega) (by rw [hx44]; omega) (by rw [hx43]; omega) (by omega) (NO_s hN (by rw [if_pos (by omega)]; omega)) (by omega) (by omega)

set_option maxRecDepth 20000 in
theorem d_nthOf (l : Launch) (G : Gl) (n : Nat) (ad : Nat → Nat) (E : Nat → va_E) (hn : 98 ≤ n) {im ic md : Nat → Int32} (hW : MCal G ad E im ic md) (x1 wd nn : Int32) {k : Nat} (hx1 : x1.toInt = (k : Int)) (hk : k < 1200) (hw1 : 0 ≤ wd.toInt) (hw2 : wd.toInt < (ic 7).toInt) (hn1 : 0 ≤ nn.toInt) (hn2 : nn.toInt ≤ 4)  : CtI l G yX9_nthOf cX9_nthOf 7 .int 2 44 n ad E [.ref (ad 68), .int x1, .int wd, .int nn] (fun r E' => (r.toInt = NWf ic md k wd.toInt nn.toInt) ∧ MR1 G ad E E' im ic md) := by
  refine CtI.of (by decide) (Nat.le_of_ble_eq_true rfl) (fun X A C => ?_)
  obtain ⟨hic, hP, hM, h69, hk7, mf, h70, hf0, hcnt⟩ := id hW
  have q4 := hP.2.1
  have q5 := hP.2.2.1
  have q6 := hP.2.2.2.1
  have q7 := hP.2.2.2.2.1
  have q8 := hP.2.2.2.2.2
  refine v_sub (lv' := [(0, .ref (ad 68)), (1, .int x1), (2, .int wd), (3, .int nn)]) [0, 1, 2, 3] rfl ?_
  refine v_aload_n C 0 dX9_nthOf_0 rfl rfl ?_
  refine v_cVv C dX9_nthOf_1 lX9_124 mX9_countDays 68 (by omega) hM (by decide) rfl (d_countDays l G n ad _ hn hW) ⟨by decide, by decide⟩ rfl (Nat.le_of_ble_eq_true rfl) ⟨Nat.zero_le _, Nat.zero_le _⟩ (fun E1 hq2 => ?_)
  obtain ⟨im3, hs3, h73, hW3, ho3⟩ := hq2
  obtain ⟨hic3, _, hM3, h693, hk73, mf3, h703, hf03, hcnt3⟩ := id hW3
  have hF3 := hcnt3 h73
  refine v_iconst (v := (-1)) C dX9_nthOf_4 (by decide) ?_
  refine v_istore (lv' := [(0, .ref (ad 68)), (1, .int x1), (2, .int wd), (3, .int nn), (4, .int (-1))]) C [1, 2, 3, 4, 0] dX9_nthOf_5 (by decide) rfl ?_
  refine v_iconst (v := 0) C dX9_nthOf_7 (by decide) ?_
  refine v_istore (lv' := [(0, .ref (ad 68)), (1, .int x1), (2, .int wd), (3, .int nn), (4, .int (-1)), (5, .int 0)]) C [1, 2, 3, 4, 5, 0] dX9_nthOf_8 (by decide) rfl ?_
  refine v_aload_n C 0 dX9_nthOf_10 rfl rfl ?_
  refine v_getr C 68 dX9_nthOf_11 fX9_26 (by omega) hM3 rfl rfl ?_
  refine v_iload_n C 1 dX9_nthOf_14 rfl rfl ?_
  refine v_ald (v := mf3 k) C 70 dX9_nthOf_15 (by omega) h703 (ti_in hx1 (by omega) (by omega)) (by rw [ti_cl hx1, show Int.toNat (k : Int) = k by omega]) ?_
  refine v_top (fun x4 ex4 => ?_)
  refine v_istore (lv' := [(0, .ref (ad 68)), (1, .int x1), (2, .int wd), (3, .int nn), (4, .int (-1)), (5, .int 0), (6, .int x4)]) C [1, 2, 3, 4, 5, 6, 0] dX9_nthOf_16 (by decide) rfl ?_
  have w0 := mod_b (a := wd.toInt - (FKf ic md k + (ic 8).toInt) % (ic 7).toInt) (b := (ic 7).toInt) (by omega)
  change 0 ≤ W0f ic md k wd.toInt ∧ W0f ic md k wd.toInt < _ at w0
  have bL := LK_b hP k
  refine lp_nthOf C _ hn hW3 h73 hic3 hP hM3 h703 hF3 x1 wd nn hx1 hk hw1 hw2 hn1 hn2 (fun y4 y5 y6 g => ?_) (LKf ic md k).toNat 0 0 (W0f ic md k wd.toInt) (-1) 0 x4 (by omega) (by rw [ex4]; rw [hF3 k (by omega)]; omega) (show (0 : Int32).toInt = 0 by decide) (by omega) (by rw [show (-1 : Int32).toInt = -1 by decide]; exact NO_0 (by omega) hw1 hw2 hn1) (by omega) (by omega)
  refine v_iload C 4 dX9_nthOf_70 rfl ?_
  exact v_ret C dX9_nthOf_72 rfl rfl ⟨g, (MR1.trans hs3 ho3 (MR1.refl h73 hW3))⟩

set_option maxRecDepth 20000 in
theorem d_nth (l : Launch) (G : Gl) (n : Nat) (ad : Nat → Nat) (E : Nat → va_E) (hn : 98 ≤ n) {im ic md : Nat → Int32} (hW : MCal G ad E im ic md) (m : Int32) (w : Int32) (k : Int32)  : CtI l G yX9_nth cX9_nth 5 .int 3 70 n ad E [.ref (ad 68), .int m, .int w, .int k] (fun r E' => (r.toInt = NTf ic md m.toInt w.toInt k.toInt) ∧ MR G ad E E' im ic md) := by
  refine CtI.of (by decide) (Nat.le_of_ble_eq_true rfl) (fun X A C => ?_)
  obtain ⟨hic, hP, hM, h69, hk7, mf, h70, hf0, hcnt⟩ := id hW
  have q4 := hP.2.1
  have q5 := hP.2.2.1
  have q6 := hP.2.2.2.1
  have q7 := hP.2.2.2.2.1
  have q8 := hP.2.2.2.2.2
  refine v_sub (lv' := [(0, .ref (ad 68)), (1, .int m), (2, .int w), (3, .int k)]) [0, 1, 2, 3] rfl ?_
  refine v_iload_n C 1 dX9_nth_0 rfl rfl ?_
  refine b_if_lt C 49 dX9_nth_1 (by decide) (rfl : Int32.toInt m = _) (fun c1 => ?_) (fun c1 => ?_)
  · refine v_iconst (v := (-1)) C dX9_nth_49 (by decide) ?_
    exact v_ret C dX9_nth_50 rfl rfl ⟨by rw [show ((-1) : Int32).toInt = (-1) by decide]; unfold NTf; (repeat first | rw [if_pos (by omega)] | rw [if_neg (by omega)]); try omega, (MR.refl hW)⟩
  · refine v_iload_n C 1 dX9_nth_4 rfl rfl ?_
    refine v_bipush (v := 100) C dX9_nth_5 (by decide) ?_
    refine v_idiv C dX9_nth_7 (by decide) ?_
    refine v_top (fun x2 ex2 => ?_)
    have hx2 : x2.toInt = (m.toInt / 100) := by rw [ex2]; exact ti_div (rfl : Int32.toInt m = _) (show (100 : Int32).toInt = 100 by decide) (by omega) (by omega)
    refine v_iconst (v := 0) C dX9_nth_8 (by decide) ?_
    refine v_bipush (v := 99) C dX9_nth_9 (by decide) ?_
    refine v_cSp C dX9_nth_11 lX9_131 mX9_within (d_within l G n ad _ x2 0 99) ⟨by decide, by decide⟩ rfl (Nat.le_of_ble_eq_true rfl) ⟨Nat.zero_le _, Nat.zero_le _⟩ (fun r3 hp4 => ?_)
    rw [hx2] at hp4
    rw [(show (0 : Int32).toInt = 0 by decide)] at hp4
    rw [(show (99 : Int32).toInt = 99 by decide)] at hp4
    rcases hp4 with ⟨rfl, hp4⟩ | ⟨rfl, hp4⟩
    · refine b_if_eq C 49 dX9_nth_14 (by decide) (show (1 : Int32).toInt = 1 by decide) (fun c5 => absurd c5 (by decide)) (fun c5 => ?_)
      refine v_iload_n C 1 dX9_nth_17 rfl rfl ?_
      refine v_bipush (v := 100) C dX9_nth_18 (by decide) ?_
      refine v_irem C dX9_nth_20 (by decide) ?_
      refine v_top (fun x6 ex6 => ?_)
      have hx6 : x6.toInt = (m.toInt % 100) := by rw [ex6]; exact ti_rem (rfl : Int32.toInt m = _) (show (100 : Int32).toInt = 100 by decide) (by omega) (by omega)
      refine v_bipush (v := 12) C dX9_nth_21 (by decide) ?_
      refine b_icmp_ge C 49 dX9_nth_23 (by decide) hx6 (show (12 : Int32).toInt = 12 by decide) (fun c7 => ?_) (fun c7 => ?_)
      · refine v_iconst (v := (-1)) C dX9_nth_49 (by decide) ?_
        exact v_ret C dX9_nth_50 rfl rfl ⟨by rw [show ((-1) : Int32).toInt = (-1) by decide]; unfold NTf; (repeat first | rw [if_pos (by omega)] | rw [if_neg (by omega)]); try omega, (MR.refl hW)⟩
      · refine v_iload_n C 2 dX9_nth_26 rfl rfl ?_
        refine v_iconst (v := 0) C dX9_nth_27 (by decide) ?_
        refine v_aload_n C 0 dX9_nth_28 rfl rfl ?_
        refine v_geti (v := im 4) C 68 dX9_nth_29 fX9_23 (by omega) hM rfl rfl ?_
        refine v_iconst (v := 1) C dX9_nth_32 (by decide) ?_
        refine v_isub C dX9_nth_33 ?_
        refine v_top (fun x8 ex8 => ?_)
        have hx8 : x8.toInt = ((ic 7).toInt - 1) := by rw [ex8]; exact ti_sub (show (im 4).toInt = (ic 7).toInt by rw [← hic]; rfl) (show (1 : Int32).toInt = 1 by decide) (by omega) (by omega)
        refine v_cSp C dX9_nth_34 lX9_131 mX9_within (d_within l G n ad _ w 0 x8) ⟨by decide, by decide⟩ rfl (Nat.le_of_ble_eq_true rfl) ⟨Nat.zero_le _, Nat.zero_le _⟩ (fun r9 hp10 => ?_)
        rw [(show (0 : Int32).toInt = 0 by decide)] at hp10
        rw [hx8] at hp10
        rcases hp10 with ⟨rfl, hp10⟩ | ⟨rfl, hp10⟩
        · refine b_if_eq C 49 dX9_nth_37 (by decide) (show (1 : Int32).toInt = 1 by decide) (fun c11 => absurd c11 (by decide)) (fun c11 => ?_)
          refine v_iload_n C 3 dX9_nth_40 rfl rfl ?_
          refine v_iconst (v := 0) C dX9_nth_41 (by decide) ?_
          refine v_iconst (v := 4) C dX9_nth_42 (by decide) ?_
          refine v_cSp C dX9_nth_43 lX9_131 mX9_within (d_within l G n ad _ k 0 4) ⟨by decide, by decide⟩ rfl (Nat.le_of_ble_eq_true rfl) ⟨Nat.zero_le _, Nat.zero_le _⟩ (fun r12 hp13 => ?_)
          rw [(show (0 : Int32).toInt = 0 by decide)] at hp13
          rw [(show (4 : Int32).toInt = 4 by decide)] at hp13
          rcases hp13 with ⟨rfl, hp13⟩ | ⟨rfl, hp13⟩
          · refine b_if_ne C 51 dX9_nth_46 (by decide) (show (1 : Int32).toInt = 1 by decide) (fun c14 => ?_) (fun c14 => absurd c14 (by decide))
            refine v_aload_n C 0 dX9_nth_51 rfl rfl ?_
            refine v_bipush (v := 12) C dX9_nth_52 (by decide) ?_
            refine v_iload_n C 1 dX9_nth_54 rfl rfl ?_
            refine v_bipush (v := 100) C dX9_nth_55 (by decide) ?_
            refine v_idiv C dX9_nth_57 (by decide) ?_
            refine v_top (fun x15 ex15 => ?_)
            have hx15 : x15.toInt = (m.toInt / 100) := by rw [ex15]; exact ti_div (rfl : Int32.toInt m = _) (show (100 : Int32).toInt = 100 by decide) (by omega) (by omega)
            refine v_imul C dX9_nth_58 ?_
            refine v_top (fun x16 ex16 => ?_)
            have hx16 : x16.toInt = (12 * (m.toInt / 100)) := by rw [ex16]; exact ti_mul (show (12 : Int32).toInt = 12 by decide) hx15 (by omega) (by omega)
            refine v_iload_n C 1 dX9_nth_59 rfl rfl ?_
            refine v_bipush (v := 100) C dX9_nth_60 (by decide) ?_
            refine v_irem C dX9_nth_62 (by decide) ?_
            refine v_top (fun x17 ex17 => ?_)
            have hx17 : x17.toInt = (m.toInt % 100) := by rw [ex17]; exact ti_rem (rfl : Int32.toInt m = _) (show (100 : Int32).toInt = 100 by decide) (by omega) (by omega)
            refine v_iadd C dX9_nth_63 ?_
            refine v_top (fun x18 ex18 => ?_)
            have hx18 : x18.toInt = ((12 * (m.toInt / 100)) + (m.toInt % 100)) := by rw [ex18]; exact ti_add hx16 hx17 (by omega) (by omega)
            refine v_iload_n C 2 dX9_nth_64 rfl rfl ?_
            refine v_iload_n C 3 dX9_nth_65 rfl rfl ?_
            refine v_cVi C dX9_nth_66 lX9_156 mX9_nthOf 68 (by omega) hM (by decide) rfl (d_nthOf l G n ad _ hn hW x18 w k (k := 12 * Int.toNat (m.toInt / 100) + Int.toNat (m.toInt % 100)) (by rw [hx18]; omega) (by omega) (by omega) (by omega) (by omega) (by omega)) ⟨by decide, by decide⟩ rfl (Nat.le_of_ble_eq_true rfl) ⟨Nat.zero_le _, Nat.zero_le _⟩ (fun r20 E19 hq21 => ?_)
            obtain ⟨hp22, hq21⟩ := hq21
            obtain ⟨im23, hs23, h723, hW23, ho23⟩ := hq21
            obtain ⟨hic23, _, hM23, h6923, hk723, mf23, h7023, hf023, hcnt23⟩ := id hW23
            have hF23 := hcnt23 h723
            have bM := NW_b hP (k := 12 * Int.toNat (m.toInt / 100) + Int.toNat (m.toInt % 100)) (by omega) (wd := w.toInt) (n := k.toInt) (by omega)
            refine v_istore (lv' := [(0, .ref (ad 68)), (1, .int m), (2, .int w), (3, .int k), (4, .int r20)]) C [1, 2, 3, 4, 0] dX9_nth_69 (by decide) rfl ?_
            refine v_iload C 4 dX9_nth_71 rfl ?_
            refine b_if_ge C 81 dX9_nth_73 (by decide) hp22 (fun c24 => ?_) (fun c24 => ?_)
            · refine v_iload C 4 dX9_nth_81 rfl ?_
              exact v_ret C dX9_nth_83 rfl rfl ⟨by unfold NTf; (repeat first | rw [if_pos (by omega)] | rw [if_neg (by omega)]); try omega, (MR.trans hs23 ho23 (MR.refl hW23))⟩
            · refine v_bipush (v := (-6)) C dX9_nth_76 (by decide) ?_
              refine v_goto C 83 dX9_nth_78 (by decide) ?_
              exact v_ret C dX9_nth_83 rfl rfl ⟨by rw [show ((-6) : Int32).toInt = (-6) by decide]; unfold NTf; (repeat first | rw [if_pos (by omega)] | rw [if_neg (by omega)]); try omega, (MR.trans hs23 ho23 (MR.refl hW23))⟩
          · refine b_if_ne C 51 dX9_nth_46 (by decide) (show (0 : Int32).toInt = 0 by decide) (fun c25 => absurd c25 (by decide)) (fun c25 => ?_)
            refine v_iconst (v := (-1)) C dX9_nth_49 (by decide) ?_
            exact v_ret C dX9_nth_50 rfl rfl ⟨by rw [show ((-1) : Int32).toInt = (-1) by decide]; unfold NTf; (repeat first | rw [if_pos (by omega)] | rw [if_neg (by omega)]); try omega, (MR.refl hW)⟩
        · refine b_if_eq C 49 dX9_nth_37 (by decide) (show (0 : Int32).toInt = 0 by decide) (fun c26 => ?_) (fun c26 => absurd c26 (by decide))
          refine v_iconst (v := (-1)) C dX9_nth_49 (by decide) ?_
          exact v_ret C dX9_nth_50 rfl rfl ⟨by rw [show ((-1) : Int32).toInt = (-1) by decide]; unfold NTf; (repeat first | rw [if_pos (by omega)] | rw [if_neg (by omega)]); try omega, (MR.refl hW)⟩
    · refine b_if_eq C 49 dX9_nth_14 (by decide) (show (0 : Int32).toInt = 0 by decide) (fun c27 => ?_) (fun c27 => absurd c27 (by decide))
      refine v_iconst (v := (-1)) C dX9_nth_49 (by decide) ?_
      exact v_ret C dX9_nth_50 rfl rfl ⟨by rw [show ((-1) : Int32).toInt = (-1) by decide]; unfold NTf; (repeat first | rw [if_pos (by omega)] | rw [if_neg (by omega)]); try omega, (MR.refl hW)⟩

