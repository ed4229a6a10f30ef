set_option maxRecDepth 20000 in
theorem c_monthsOn (l : Launch) (G : Gl) (n : Nat) (ad : Nat → Nat) (E : Nat → va_E) (hn : 6 ≤ n) {ic md ms ld ys : Nat → Int32} (hE1 : E 1 = ob 0 (rfs ad [2, 3, 4, 5]) ic) (hE2 : E 2 = aI G 12 md) (hE3 : E 3 = aI G 12 ms) (hE4 : E 4 = aI G 100 ld) (hE5 : E 5 = aI G 101 ys) (hP : CalP ic md) (hF : CalF ic md ms ld ys) (d k e : Int32) (hd1 : 0 ≤ d.toInt) (hd2 : d.toInt < YSf md (ic 4).toInt (ic 5).toInt 100) (hk1 : -100000 ≤ k.toInt) (hk2 : k.toInt ≤ 100000) (he1 : 0 ≤ e.toInt) (he2 : e.toInt ≤ 2)  : CtI l G yX0_monthsOn cX0_monthsOn 11 .int 2 41 n ad E [.ref (ad 1), .int d, .int k, .int e] (fun r E' => (∃ yy mm : Nat, yy < 100 ∧ mm < 12 ∧ FDf ic md yy mm ≤ d.toInt ∧ d.toInt < FDf ic md yy (mm + 1) ∧ r.toInt = MOf ic md (12 * yy + mm) (d.toInt - FDf ic md yy mm) k.toInt e.toInt) ∧ E = E') := by
  refine CtI.of (by decide) (Nat.le_of_ble_eq_true rfl) (fun X A C => ?_)
  refine v_sub (lv' := [(0, .ref (ad 1)), (1, .int d), (2, .int k), (3, .int e)]) [0, 1, 2, 3] rfl ?_
  refine v_aload_n C 0 dX0_monthsOn_0 rfl rfl ?_
  refine v_iload_n C 1 dX0_monthsOn_1 rfl rfl ?_
  refine v_cVp C dX0_monthsOn_2 lX0_51 mX0_yearOf 1 (by omega) hE1 (by decide) rfl (c_yearOf l G n ad _ hn hE1 hE2 hE3 hE4 hE5 hP hF d (by omega) (by omega)) ⟨by decide, by decide⟩ rfl (Nat.le_of_ble_eq_true rfl) ⟨Nat.zero_le _, Nat.zero_le _⟩ (fun r1 hp2 => ?_)
  obtain ⟨yy, hyy, hry, hy1, hy2⟩ := hp2
  refine v_istore (lv' := [(0, .ref (ad 1)), (1, .int d), (2, .int k), (3, .int e), (4, .int r1)]) C [1, 2, 3, 4, 0] dX0_monthsOn_5 (by decide) rfl ?_
  refine v_aload_n C 0 dX0_monthsOn_7 rfl rfl ?_
  refine v_iload C 4 dX0_monthsOn_8 rfl ?_
  refine v_iload_n C 1 dX0_monthsOn_10 rfl rfl ?_
  refine v_cVp C dX0_monthsOn_11 lX0_55 mX0_monthOf 1 (by omega) hE1 (by decide) rfl (c_monthOf l G n ad _ hn hE1 hE2 hE3 hE4 hE5 hP hF r1 d hry hyy hy1 hy2) ⟨by decide, by decide⟩ rfl (Nat.le_of_ble_eq_true rfl) ⟨Nat.zero_le _, Nat.zero_le _⟩ (fun r3 hp4 => ?_)
  obtain ⟨mm, hmm, hrm, hm1, hm2⟩ := hp4
  refine v_istore (lv' := [(0, .ref (ad 1)), (1, .int d), (2, .int k), (3, .int e), (4, .int r1), (5, .int r3)]) C [1, 2, 3, 4, 5, 0] dX0_monthsOn_14 (by decide) rfl ?_
  refine v_iload_n C 1 dX0_monthsOn_16 rfl rfl ?_
  refine v_aload_n C 0 dX0_monthsOn_17 rfl rfl ?_
  refine v_iload C 4 dX0_monthsOn_18 rfl ?_
  refine v_iload C 5 dX0_monthsOn_20 rfl ?_
  refine v_cVp C dX0_monthsOn_22 lX0_58 mX0_firstDay 1 (by omega) hE1 (by decide) rfl (c_firstDay l G n ad _ hn hE1 hE2 hE3 hE4 hE5 hP hF r1 r3 hry hrm (by omega) (by omega)) ⟨by decide, by decide⟩ rfl (Nat.le_of_ble_eq_true rfl) ⟨Nat.zero_le _, Nat.zero_le _⟩ (fun r5 hp6 => ?_)
  have e1 := FD_next (ic := ic) (md := md) (y := yy) (m := mm)
  have b1 := DI_b (y := yy) hP hmm
  have b2 := FD_b hP (y := yy) (m := mm) (by omega) (by omega)
  refine v_isub C dX0_monthsOn_25 ?_
  refine v_top (fun x7 ex7 => ?_)
  have hx7 : x7.toInt = (d.toInt - (FDf ic md yy mm)) := by rw [ex7]; exact ti_sub (rfl : Int32.toInt d = _) hp6 (by omega) (by omega)
  refine v_istore (lv' := [(0, .ref (ad 1)), (1, .int d), (2, .int k), (3, .int e), (4, .int r1), (5, .int r3), (6, .int x7)]) C [1, 2, 3, 4, 5, 6, 0] dX0_monthsOn_26 (by decide) rfl ?_
  refine v_iload C 4 dX0_monthsOn_28 rfl ?_
  refine v_bipush (v := 12) C dX0_monthsOn_30 (by decide) ?_
  refine v_imul C dX0_monthsOn_32 ?_
  refine v_top (fun x8 ex8 => ?_)
  have hx8 : x8.toInt = ((yy : Int) * 12) := by rw [ex8]; exact ti_mul hry (show (12 : Int32).toInt = 12 by decide) (by omega) (by omega)
  refine v_iload C 5 dX0_monthsOn_33 rfl ?_
  refine v_iadd C dX0_monthsOn_35 ?_
  refine v_top (fun x9 ex9 => ?_)
  have hx9 : x9.toInt = (((yy : Int) * 12) + (mm : Int)) := by rw [ex9]; exact ti_add hx8 hrm (by omega) (by omega)
  refine v_iload_n C 2 dX0_monthsOn_36 rfl rfl ?_
  refine v_iadd C dX0_monthsOn_37 ?_
  refine v_top (fun x10 ex10 => ?_)
  have hx10 : x10.toInt = ((((yy : Int) * 12) + (mm : Int)) + k.toInt) := by rw [ex10]; exact ti_add hx9 (rfl : Int32.toInt k = _) (by omega) (by omega)
  refine v_istore (lv' := [(0, .ref (ad 1)), (1, .int d), (2, .int k), (3, .int e), (4, .int r1), (5, .int r3), (6, .int x7), (7, .int x10)]) C [1, 2, 3, 4, 5, 6, 7, 0] dX0_monthsOn_38 (by decide) rfl ?_
  refine v_iload C 7 dX0_monthsOn_40 rfl ?_
  refine b_if_lt C 53 dX0_monthsOn_42 (by decide) hx10 (fun c11 => ?_) (fun c11 => ?_)
  · refine v_iconst (v := (-1)) C dX0_monthsOn_53 (by decide) ?_
    exact v_ret C dX0_monthsOn_54 rfl rfl ⟨⟨yy, mm, hyy, hmm, hm1, hm2, by rw [show (-1 : Int32).toInt = -1 by decide]; unfold MOf; rw [if_pos (by omega)]⟩, rfl⟩
  · refine v_iload C 7 dX0_monthsOn_45 rfl ?_
    refine v_sipush (v := 1200) C dX0_monthsOn_47 (by decide) ?_
    refine b_icmp_lt C 55 dX0_monthsOn_50 (by decide) hx10 (show (1200 : Int32).toInt = 1200 by decide) (fun c12 => ?_) (fun c12 => ?_)
    · obtain ⟨T, hT⟩ : ∃ T : Nat, x10.toInt = (T : Int) := ⟨x10.toInt.toNat, by omega⟩
      have hTe : (((12 * yy + mm : Nat) : Int) + k.toInt).toNat = T := by omega
      have bF := FD_b hP (y := T / 12) (m := T % 12) (by omega) (by omega)
      have bL := DI_b hP (y := T / 12) (m := T % 12) (by omega)
      have bE := FK_lt hP (k := T) (by omega)
      unfold FKf LKf at bE
      refine v_aload_n C 0 dX0_monthsOn_55 rfl rfl ?_
      refine v_iload C 7 dX0_monthsOn_56 rfl ?_
      refine v_bipush (v := 12) C dX0_monthsOn_58 (by decide) ?_
      refine v_idiv C dX0_monthsOn_60 (by decide) ?_
      refine v_top (fun x13 ex13 => ?_)
      have hx13 : x13.toInt = ((T : Int) / 12) := by rw [ex13]; exact ti_div hT (show (12 : Int32).toInt = 12 by decide) (by omega) (by omega)
      refine v_iload C 7 dX0_monthsOn_61 rfl ?_
      refine v_bipush (v := 12) C dX0_monthsOn_63 (by decide) ?_
      refine v_irem C dX0_monthsOn_65 (by decide) ?_
      refine v_top (fun x14 ex14 => ?_)
      have hx14 : x14.toInt = ((T : Int) % 12) := by rw [ex14]; exact ti_rem hT (show (12 : Int32).toInt = 12 by decide) (by omega) (by omega)
      refine v_cVp C dX0_monthsOn_66 lX0_58 mX0_firstDay 1 (by omega) hE1 (by decide) rfl (c_firstDay l G n ad _ hn hE1 hE2 hE3 hE4 hE5 hP hF x13 x14 (show Int32.toInt x13 = ((T / 12 : Nat) : Int) by rw [hx13]; omega) (show Int32.toInt x14 = ((T % 12 : Nat) : Int) by rw [hx14]; omega) (by omega) (by omega)) ⟨by decide, by decide⟩ rfl (Nat.le_of_ble_eq_true rfl) ⟨Nat.zero_le _, Nat.zero_le _⟩ (fun r15 hp16 => ?_)
      refine v_istore (lv' := [(0, .ref (ad 1)), (1, .int d), (2, .int k), (3, .int e), (4, .int r1), (5, .int r3), (6, .int x7), (7, .int x10), (8, .int r15)]) C [1, 2, 3, 4, 5, 6, 7, 8, 0] dX0_monthsOn_69 (by decide) rfl ?_
      refine v_aload_n C 0 dX0_monthsOn_71 rfl rfl ?_
      refine v_iload C 7 dX0_monthsOn_72 rfl ?_
      refine v_bipush (v := 12) C dX0_monthsOn_74 (by decide) ?_
      refine v_idiv C dX0_monthsOn_76 (by decide) ?_
      refine v_top (fun x17 ex17 => ?_)
      have hx17 : x17.toInt = ((T : Int) / 12) := by rw [ex17]; exact ti_div hT (show (12 : Int32).toInt = 12 by decide) (by omega) (by omega)
      refine v_iload C 7 dX0_monthsOn_77 rfl ?_
      refine v_bipush (v := 12) C dX0_monthsOn_79 (by decide) ?_
      refine v_irem C dX0_monthsOn_81 (by decide) ?_
      refine v_top (fun x18 ex18 => ?_)
      have hx18 : x18.toInt = ((T : Int) % 12) := by rw [ex18]; exact ti_rem hT (show (12 : Int32).toInt = 12 by decide) (by omega) (by omega)
      refine v_cVp C dX0_monthsOn_82 lX0_61 mX0_daysIn 1 (by omega) hE1 (by decide) rfl (c_daysIn l G n ad _ hn hE1 hE2 hE3 hE4 hE5 hP hF x17 x18 (show Int32.toInt x17 = ((T / 12 : Nat) : Int) by rw [hx17]; omega) (show Int32.toInt x18 = ((T % 12 : Nat) : Int) by rw [hx18]; omega) (by omega) (by omega)) ⟨by decide, by decide⟩ rfl (Nat.le_of_ble_eq_true rfl) ⟨Nat.zero_le _, Nat.zero_le _⟩ (fun r19 hp20 => ?_)
      refine v_istore (lv' := [(0, .ref (ad 1)), (1, .int d), (2, .int k), (3, .int e), (4, .int r1), (5, .int r3), (6, .int x7), (7, .int x10), (8, .int r15), (9, .int r19)]) C [1, 2, 3, 4, 5, 6, 7, 8, 9, 0] dX0_monthsOn_85 (by decide) rfl ?_
      refine v_iload C 8 dX0_monthsOn_87 rfl ?_
      refine v_iload C 6 dX0_monthsOn_89 rfl ?_
      refine v_iadd C dX0_monthsOn_91 ?_
      refine v_top (fun x21 ex21 => ?_)
      have hx21 : x21.toInt = ((FDf ic md (T / 12) (T % 12)) + (d.toInt - (FDf ic md yy mm))) := by rw [ex21]; exact ti_add hp16 hx7 (by omega) (by omega)
      refine v_istore (lv' := [(0, .ref (ad 1)), (1, .int d), (2, .int k), (3, .int e), (4, .int r1), (5, .int r3), (6, .int x7), (7, .int x10), (8, .int r15), (9, .int r19), (10, .int x21)]) C [1, 2, 3, 4, 5, 6, 7, 8, 9, 10, 0] dX0_monthsOn_92 (by decide) rfl ?_
      refine v_iload C 6 dX0_monthsOn_94 rfl ?_
      refine v_iload C 9 dX0_monthsOn_96 rfl ?_
      refine b_icmp_lt C 108 dX0_monthsOn_98 (by decide) hx7 hp20 (fun c22 => ?_) (fun c22 => ?_)
      · refine v_iload C 6 dX0_monthsOn_108 rfl ?_
        refine v_iload C 9 dX0_monthsOn_110 rfl ?_
        refine b_icmp_lt C 128 dX0_monthsOn_112 (by decide) hx7 hp20 (fun c23 => ?_) (fun c23 => ?_)
        · refine v_aload_n C 0 dX0_monthsOn_128 rfl rfl ?_
          refine v_iload C 10 dX0_monthsOn_129 rfl ?_
          refine v_cVp C dX0_monthsOn_131 lX0_64 mX0_has 1 (by omega) hE1 (by decide) rfl (c_has l G n ad _ hn hE1 hE2 hE3 hE4 hE5 hP hF x21) ⟨by decide, by decide⟩ rfl (Nat.le_of_ble_eq_true rfl) ⟨Nat.zero_le _, Nat.zero_le _⟩ (fun r25 hp24 => ?_)
          rcases hp24 with ⟨rfl, hp24⟩ | ⟨rfl, hp24⟩
          · refine b_if_eq C 142 dX0_monthsOn_134 (by decide) (show (1 : Int32).toInt = 1 by decide) (fun c26 => absurd c26 (by decide)) (fun c26 => ?_)
            refine v_iload C 10 dX0_monthsOn_137 rfl ?_
            refine v_goto C 143 dX0_monthsOn_139 (by decide) ?_
            exact v_ret C dX0_monthsOn_143 rfl rfl ⟨⟨yy, mm, hyy, hmm, hm1, hm2, by unfold MOf; rw [if_neg (by omega), hTe]; unfold FKf LKf; (repeat first | rw [if_pos (by omega)] | rw [if_neg (by omega)]); try omega⟩, rfl⟩
          · refine b_if_eq C 142 dX0_monthsOn_134 (by decide) (show (0 : Int32).toInt = 0 by decide) (fun c27 => ?_) (fun c27 => absurd c27 (by decide))
            refine v_iconst (v := (-1)) C dX0_monthsOn_142 (by decide) ?_
            exact v_ret C dX0_monthsOn_143 rfl rfl ⟨⟨yy, mm, hyy, hmm, hm1, hm2, by rw [show (-1 : Int32).toInt = -1 by decide]; unfold MOf; rw [if_neg (by omega), hTe]; unfold FKf LKf; (repeat first | rw [if_pos (by omega)] | rw [if_neg (by omega)]); try omega⟩, rfl⟩
        · refine v_iload_n C 3 dX0_monthsOn_115 rfl rfl ?_
          refine b_if_ne C 128 dX0_monthsOn_116 (by decide) (rfl : Int32.toInt e = _) (fun c28 => ?_) (fun c28 => ?_)
          · refine v_aload_n C 0 dX0_monthsOn_128 rfl rfl ?_
            refine v_iload C 10 dX0_monthsOn_129 rfl ?_
            refine v_cVp C dX0_monthsOn_131 lX0_64 mX0_has 1 (by omega) hE1 (by decide) rfl (c_has l G n ad _ hn hE1 hE2 hE3 hE4 hE5 hP hF x21) ⟨by decide, by decide⟩ rfl (Nat.le_of_ble_eq_true rfl) ⟨Nat.zero_le _, Nat.zero_le _⟩ (fun r30 hp29 => ?_)
            rcases hp29 with ⟨rfl, hp29⟩ | ⟨rfl, hp29⟩
            · refine b_if_eq C 142 dX0_monthsOn_134 (by decide) (show (1 : Int32).toInt = 1 by decide) (fun c31 => absurd c31 (by decide)) (fun c31 => ?_)
              refine v_iload C 10 dX0_monthsOn_137 rfl ?_
              refine v_goto C 143 dX0_monthsOn_139 (by decide) ?_
              exact v_ret C dX0_monthsOn_143 rfl rfl ⟨⟨yy, mm, hyy, hmm, hm1, hm2, by unfold MOf; rw [if_neg (by omega), hTe]; unfold FKf LKf; (repeat first | rw [if_pos (by omega)] | rw [if_neg (by omega)]); try omega⟩, rfl⟩
            · refine b_if_eq C 142 dX0_monthsOn_134 (by decide) (show (0 : Int32).toInt = 0 by decide) (fun c32 => ?_) (fun c32 => absurd c32 (by decide))
              refine v_iconst (v := (-1)) C dX0_monthsOn_142 (by decide) ?_
              exact v_ret C dX0_monthsOn_143 rfl rfl ⟨⟨yy, mm, hyy, hmm, hm1, hm2, by rw [show (-1 : Int32).toInt = -1 by decide]; unfold MOf; rw [if_neg (by omega), hTe]; unfold FKf LKf; (repeat first | rw [if_pos (by omega)] | rw [if_neg (by omega)]); try omega⟩, rfl⟩
          · refine v_iload C 8 dX0_monthsOn_119 rfl ?_
            refine v_iload C 9 dX0_monthsOn_121 rfl ?_
            refine v_iadd C dX0_monthsOn_123 ?_
            refine v_top (fun x33 ex33 => ?_)
            have hx33 : x33.toInt = ((FDf ic md (T / 12) (T % 12)) + (DIf ic md (T / 12) (T % 12))) := by rw [ex33]; exact ti_add hp16 hp20 (by omega) (by omega)
            refine v_iconst (v := 1) C dX0_monthsOn_124 (by decide) ?_
            refine v_isub C dX0_monthsOn_125 ?_
            refine v_top (fun x34 ex34 => ?_)
            have hx34 : x34.toInt = (((FDf ic md (T / 12) (T % 12)) + (DIf ic md (T / 12) (T % 12))) - 1) := by rw [ex34]; exact ti_sub hx33 (show (1 : Int32).toInt = 1 by decide) (by omega) (by omega)
            refine v_istore (lv' := [(0, .ref (ad 1)), (1, .int d), (2, .int k), (3, .int e), (4, .int r1), (5, .int r3), (6, .int x7), (7, .int x10), (8, .int r15), (9, .int r19), (10, .int x34)]) C [1, 2, 3, 4, 5, 6, 7, 8, 9, 10, 0] dX0_monthsOn_126 (by decide) rfl ?_
            refine v_aload_n C 0 dX0_monthsOn_128 rfl rfl ?_
            refine v_iload C 10 dX0_monthsOn_129 rfl ?_
            refine v_cVp C dX0_monthsOn_131 lX0_64 mX0_has 1 (by omega) hE1 (by decide) rfl (c_has l G n ad _ hn hE1 hE2 hE3 hE4 hE5 hP hF x34) ⟨by decide, by decide⟩ rfl (Nat.le_of_ble_eq_true rfl) ⟨Nat.zero_le _, Nat.zero_le _⟩ (fun r36 hp35 => ?_)
            rcases hp35 with ⟨rfl, hp35⟩ | ⟨rfl, hp35⟩
            · refine b_if_eq C 142 dX0_monthsOn_134 (by decide) (show (1 : Int32).toInt = 1 by decide) (fun c37 => absurd c37 (by decide)) (fun c37 => ?_)
              refine v_iload C 10 dX0_monthsOn_137 rfl ?_
              refine v_goto C 143 dX0_monthsOn_139 (by decide) ?_
              exact v_ret C dX0_monthsOn_143 rfl rfl ⟨⟨yy, mm, hyy, hmm, hm1, hm2, by unfold MOf; rw [if_neg (by omega), hTe]; unfold FKf LKf; (repeat first | rw [if_pos (by omega)] | rw [if_neg (by omega)]); try omega⟩, rfl⟩
            · refine b_if_eq C 142 dX0_monthsOn_134 (by decide) (show (0 : Int32).toInt = 0 by decide) (fun c38 => ?_) (fun c38 => absurd c38 (by decide))
              refine v_iconst (v := (-1)) C dX0_monthsOn_142 (by decide) ?_
              exact v_ret C dX0_monthsOn_143 rfl rfl ⟨⟨yy, mm, hyy, hmm, hm1, hm2, by rw [show (-1 : Int32).toInt = -1 by decide]; unfold MOf; rw [if_neg (by omega), hTe]; unfold FKf LKf; (repeat first | rw [if_pos (by omega)] | rw [if_neg (by omega)]); try omega⟩, rfl⟩
      · refine v_iload_n C 3 dX0_monthsOn_101 rfl rfl ?_
        refine v_iconst (v := 2) C dX0_monthsOn_102 (by decide) ?_
        refine b_icmp_ne C 108 dX0_monthsOn_103 (by decide) (rfl : Int32.toInt e = _) (show (2 : Int32).toInt = 2 by decide) (fun c39 => ?_) (fun c39 => ?_)
        · refine v_iload C 6 dX0_monthsOn_108 rfl ?_
          refine v_iload C 9 dX0_monthsOn_110 rfl ?_
          refine b_icmp_lt C 128 dX0_monthsOn_112 (by decide) hx7 hp20 (fun c40 => ?_) (fun c40 => ?_)
          · refine v_aload_n C 0 dX0_monthsOn_128 rfl rfl ?_
            refine v_iload C 10 dX0_monthsOn_129 rfl ?_
            refine v_cVp C dX0_monthsOn_131 lX0_64 mX0_has 1 (by omega) hE1 (by decide) rfl (c_has l G n ad _ hn hE1 hE2 hE3 hE4 hE5 hP hF x21) ⟨by decide, by decide⟩ rfl (Nat.le_of_ble_eq_true rfl) ⟨Nat.zero_le _, Nat.zero_le _⟩ (fun r42 hp41 => ?_)
            rcases hp41 with ⟨rfl, hp41⟩ | ⟨rfl, hp41⟩
            · refine b_if_eq C 142 dX0_monthsOn_134 (by decide) (show (1 : Int32).toInt = 1 by decide) (fun c43 => absurd c43 (by decide)) (fun c43 => ?_)
              refine v_iload C 10 dX0_monthsOn_137 rfl ?_
              refine v_goto C 143 dX0_monthsOn_139 (by decide) ?_
              exact v_ret C dX0_monthsOn_143 rfl rfl ⟨⟨yy, mm, hyy, hmm, hm1, hm2, by unfold MOf; rw [if_neg (by omega), hTe]; unfold FKf LKf; (repeat first | rw [if_pos (by omega)] | rw [if_neg (by omega)]); try omega⟩, rfl⟩
            · refine b_if_eq C 142 dX0_monthsOn_134 (by decide) (show (0 : Int32).toInt = 0 by decide) (fun c44 => ?_) (fun c44 => absurd c44 (by decide))
              refine v_iconst (v := (-1)) C dX0_monthsOn_142 (by decide) ?_
              exact v_ret C dX0_monthsOn_143 rfl rfl ⟨⟨yy, mm, hyy, hmm, hm1, hm2, by rw [show (-1 : Int32).toInt = -1 by decide]; unfold MOf; rw [if_neg (by omega), hTe]; unfold FKf LKf; (repeat first | rw [if_pos (by omega)] | rw [if_neg (by omega)]); try omega⟩, rfl⟩
          · refine v_iload_n C 3 dX0_monthsOn_115 rfl rfl ?_
            refine b_if_ne C 128 dX0_monthsOn_116 (by decide) (rfl : Int32.toInt e = _) (fun c45 => ?_) (fun c45 => ?_)
            · refine v_aload_n C 0 dX0_monthsOn_128 rfl rfl ?_
              refine v_iload C 10 dX0_monthsOn_129 rfl ?_
              refine v_cVp C dX0_monthsOn_131 lX0_64 mX0_has 1 (by omega) hE1 (by decide) rfl (c_has l G n ad _ hn hE1 hE2 hE3 hE4 hE5 hP hF x21) ⟨by decide, by decide⟩ rfl (Nat.le_of_ble_eq_true rfl) ⟨Nat.zero_le _, Nat.zero_le _⟩ (fun r47 hp46 => ?_)
              rcases hp46 with ⟨rfl, hp46⟩ | ⟨rfl, hp46⟩
              · refine b_if_eq C 142 dX0_monthsOn_134 (by decide) (show (1 : Int32).toInt = 1 by decide) (fun c48 => absurd c48 (by decide)) (fun c48 => ?_)
                refine v_iload C 10 dX0_monthsOn_137 rfl ?_
                refine v_goto C 143 dX0_monthsOn_139 (by decide) ?_
                exact v_ret C dX0_monthsOn_143 rfl rfl ⟨⟨yy, mm, hyy, hmm, hm1, hm2, by unfold MOf; rw [if_neg (by omega), hTe]; unfold FKf LKf; (repeat first | rw [if_pos (by omega)] | rw [if_neg (by omega)]); try omega⟩, rfl⟩
              · refine b_if_eq C 142 dX0_monthsOn_134 (by decide) (show (0 : Int32).toInt = 0 by decide) (fun c49 => ?_) (fun c49 => absurd c49 (by decide))
                refine v_iconst (v := (-1)) C dX0_monthsOn_142 (by decide) ?_
                exact v_ret C dX0_monthsOn_143 rfl rfl ⟨⟨yy, mm, hyy, hmm, hm1, hm2, by rw [show (-1 : Int32).toInt = -1 by decide]; unfold MOf; rw [if_neg (by omega), hTe]; unfold FKf LKf; (repeat first | rw [if_pos (by omega)] | rw [if_neg (by omega)]); try omega⟩, rfl⟩
            · refine v_iload C 8 dX0_monthsOn_119 rfl ?_
              refine v_iload C 9 dX0_monthsOn_121 rfl ?_
              refine v_iadd C dX0_monthsOn_123 ?_
              refine v_top (fun x50 ex50 => ?_)
              have hx50 : x50.toInt = ((FDf ic md (T / 12) (T % 12)) + (DIf ic md (T / 12) (T % 12))) := by rw [ex50]; exact ti_add hp16 hp20 (by omega) (by omega)
              refine v_iconst (v := 1) C dX0_monthsOn_124 (by decide) ?_
              refine v_isub C dX0_monthsOn_125 ?_
              refine v_top (fun x51 ex51 => ?_)
              have hx51 : x51.toInt = (((FDf ic md (T / 12) (T % 12)) + (DIf ic md (T / 12) (T % 12))) - 1) := by rw [ex51]; exact ti_sub hx50 (show (1 : Int32).toInt = 1 by decide) (by omega) (by omega)
              refine v_istore (lv' := [(0, .ref (ad 1)), (1, .int d), (2, .int k), (3, .int e), (4, .int r1), (5, .int r3), (6, .int x7), (7, .int x10), (8, .int r15), (9, .int r19), (10, .int x51)]) C [1, 2, 3, 4, 5, 6, 7, 8, 9, 10, 0] dX0_monthsOn_126 (by decide) rfl ?_
              refine v_aload_n C 0 dX0_monthsOn_128 rfl rfl ?_
              refine v_iload C 10 dX0_monthsOn_129 rfl ?_
              refine v_cVp C dX0_monthsOn_131 lX0_64 mX0_has 1 (by omega) hE1 (by decide) rfl (c_has l G n ad _ hn hE1 hE2 hE3 hE4 hE5 hP hF x51) ⟨by decide, by decide⟩ rfl (Nat.le_of_ble_eq_true rfl) ⟨Nat.zero_le _, Nat.zero_le _⟩ (fun r53 hp52 => ?_)
              rcases hp52 with ⟨rfl, hp52⟩ | ⟨rfl, hp52⟩
              · refine b_if_eq C 142 dX0_monthsOn_134 (by decide) (show (1 : Int32).toInt = 1 by decide) (fun c54 => absurd c54 (by decide)) (fun c54 => ?_)
                refine v_iload C 10 dX0_monthsOn_137 rfl ?_
                refine v_goto C 143 dX0_monthsOn_139 (by decide) ?_
                exact v_ret C dX0_monthsOn_143 rfl rfl ⟨⟨yy, mm, hyy, hmm, hm1, hm2, by unfold MOf; rw [if_neg (by omega), hTe]; unfold FKf LKf; (repeat first | rw [if_pos (by omega)] | rw [if_neg (by omega)]); try omega⟩, rfl⟩
              · refine b_if_eq C 142 dX0_monthsOn_134 (by decide) (show (0 : Int32).toInt = 0 by decide) (fun c55 => ?_) (fun c55 => absurd c55 (by decide))
                refine v_iconst (v := (-1)) C dX0_monthsOn_142 (by decide) ?_
                exact v_ret C dX0_monthsOn_143 rfl rfl ⟨⟨yy, mm, hyy, hmm, hm1, hm2, by rw [show (-1 : Int32).toInt = -1 by decide]; unfold MOf; rw [if_neg (by omega), hTe]; unfold FKf LKf; (repeat first | rw [if_pos (by omega)] | rw [if_neg (by omega)]); try omega⟩, rfl⟩
        · refine v_iconst (v := (-1)) C dX0_monthsOn_106 (by decide) ?_
          exact v_ret C dX0_monthsOn_107 rfl rfl ⟨⟨yy, mm, hyy, hmm, hm1, hm2, by rw [show (-1 : Int32).toInt = -1 by decide]; unfold MOf; rw [if_neg (by omega), hTe]; unfold FKf LKf; (repeat first | rw [if_pos (by omega)] | rw [if_neg (by omega)]); try omega⟩, rfl⟩
    · refine v_iconst (v := (-1)) C dX0_monthsOn_53 (by decide) ?_
      exact v_ret C dX0_monthsOn_54 rfl rfl ⟨⟨yy, mm, hyy, hmm, hm1, hm2, by rw [show (-1 : Int32).toInt = -1 by decide]; unfold MOf; rw [if_pos (by omega)]⟩, rfl⟩

set_option maxRecDepth 20000 in
theorem c_nthWeekday (l : Launch) (G : Gl) (n : Nat) (ad : Nat → Nat) (E : Nat → va_E) (hn : 6 ≤ n) {ic md ms ld ys : Nat → Int32} (hE1 : E 1 = ob 0 (rfs ad [2, 3, 4, 5]) ic) (hE2 : E 2 = aI G 12 md) (hE3 : E 3 = aI G 12 ms) (hE4 : E 4 = aI G 100 ld) (hE5 : E 5 = aI G 101 ys) (hP : CalP ic md) (hF : CalF ic md ms ld ys) (y m wd k : Int32) {yy mm : Nat} (hy : y.toInt = (yy : Int)) (hm : m.toInt = (mm : Int)) (hy2 : yy < 100) (hm2 : mm < 12) (hw1 : 0 ≤ wd.toInt) (hw2 : wd.toInt < (ic 7).toInt) (hk1 : 0 ≤ k.toInt) (hk2 : k.toInt ≤ 4)  : CtI l G yX0_nthWeekday cX0_nthWeekday 9 .int 3 64 n ad E [.ref (ad 1), .int y, .int m, .int wd, .int k] (fun r E' => (r.toInt = NWf ic md (12 * yy + mm) wd.toInt k.toInt) ∧ E = E') := by
  refine CtI.of (by decide) (Nat.le_of_ble_eq_true rfl) (fun X A C => ?_)
  refine v_sub (lv' := [(0, .ref (ad 1)), (1, .int y), (2, .int m), (3, .int wd), (4, .int k)]) [0, 1, 2, 3, 4] rfl ?_
  have q7 := hP.2.2.2.2.1
  have q8 := hP.2.2.2.2.2
  have b1 := DI_b (y := yy) hP hm2
  have b2 := FD_b hP (y := yy) (m := mm) (by omega) (by omega)
  have bk := mul_b (a := k.toInt) (b := (ic 7).toInt) (m := 4) (k := 10) (by omega) (by omega) (by omega) (by omega) (by omega)
  refine v_aload_n C 0 dX0_nthWeekday_0 rfl rfl ?_
  refine v_iload_n C 1 dX0_nthWeekday_1 rfl rfl ?_
  refine v_iload_n C 2 dX0_nthWeekday_2 rfl rfl ?_
  refine v_cVp C dX0_nthWeekday_3 lX0_58 mX0_firstDay 1 (by omega) hE1 (by decide) rfl (c_firstDay l G n ad _ hn hE1 hE2 hE3 hE4 hE5 hP hF y m hy hm (by omega) (by omega)) ⟨by decide, by decide⟩ rfl (Nat.le_of_ble_eq_true rfl) ⟨Nat.zero_le _, Nat.zero_le _⟩ (fun r1 hp2 => ?_)
  refine v_istore (lv' := [(0, .ref (ad 1)), (1, .int y), (2, .int m), (3, .int wd), (4, .int k), (5, .int r1)]) C [1, 2, 3, 4, 5, 0] dX0_nthWeekday_6 (by decide) rfl ?_
  refine v_aload_n C 0 dX0_nthWeekday_8 rfl rfl ?_
  refine v_iload_n C 1 dX0_nthWeekday_9 rfl rfl ?_
  refine v_iload_n C 2 dX0_nthWeekday_10 rfl rfl ?_
  refine v_cVp C dX0_nthWeekday_11 lX0_61 mX0_daysIn 1 (by omega) hE1 (by decide) rfl (c_daysIn l G n ad _ hn hE1 hE2 hE3 hE4 hE5 hP hF y m hy hm (by omega) (by omega)) ⟨by decide, by decide⟩ rfl (Nat.le_of_ble_eq_true rfl) ⟨Nat.zero_le _, Nat.zero_le _⟩ (fun r3 hp4 => ?_)
  refine v_istore (lv' := [(0, .ref (ad 1)), (1, .int y), (2, .int m), (3, .int wd), (4, .int k), (5, .int r1), (6, .int r3)]) C [1, 2, 3, 4, 5, 6, 0] dX0_nthWeekday_14 (by decide) rfl ?_
  refine v_iconst (v := 1) C dX0_nthWeekday_16 (by decide) ?_
  refine v_aload_n C 0 dX0_nthWeekday_17 rfl rfl ?_
  refine v_geti (v := ic 7) C 1 dX0_nthWeekday_18 fX0_34 (by omega) hE1 rfl rfl ?_
  refine v_mmax C dX0_nthWeekday_21 lX0_68 mJ9_max_7cf53.2.2.1 mJ9_max_7cf53.2.1 mJ9_max_7cf53.1 ⟨by decide, by decide⟩ ⟨Nat.zero_le _, Nat.zero_le _⟩ ?_
  refine v_top (fun x5 ex5 => ?_)
  have hx5 : x5.toInt = (ic 7).toInt := by rw [ex5, if_pos (Int32.lt_iff_toInt_lt.mpr (by rw [show (1 : Int32).toInt = 1 by decide]; omega))]
  refine v_istore (lv' := [(0, .ref (ad 1)), (1, .int y), (2, .int m), (3, .int wd), (4, .int k), (5, .int r1), (6, .int r3), (7, .int x5)]) C [1, 2, 3, 4, 5, 6, 7, 0] dX0_nthWeekday_24 (by decide) rfl ?_
  refine v_iload_n C 3 dX0_nthWeekday_26 rfl rfl ?_
  refine v_aload_n C 0 dX0_nthWeekday_27 rfl rfl ?_
  refine v_iload C 5 dX0_nthWeekday_28 rfl ?_
  refine v_cVp C dX0_nthWeekday_30 lX0_73 mX0_weekdayOf 1 (by omega) hE1 (by decide) rfl (c_weekdayOf l G n ad _ hn hE1 hE2 hE3 hE4 hE5 hP hF r1 (by omega) (by omega)) ⟨by decide, by decide⟩ rfl (Nat.le_of_ble_eq_true rfl) ⟨Nat.zero_le _, Nat.zero_le _⟩ (fun r6 hp7 => ?_)
  rw [hp2] at hp7
  have br6 := mod_b (a := (FDf ic md yy mm) + (ic 8).toInt) (b := (ic 7).toInt) (by omega)
  refine v_isub C dX0_nthWeekday_33 ?_
  refine v_top (fun x8 ex8 => ?_)
  have hx8 : x8.toInt = (wd.toInt - (((FDf ic md yy mm) + (ic 8).toInt) % (ic 7).toInt)) := by rw [ex8]; exact ti_sub (rfl : Int32.toInt wd = _) hp7 (by omega) (by omega)
  refine v_iload C 7 dX0_nthWeekday_34 rfl ?_
  refine v_cSNp C dX0_nthWeekday_36 (List.mem_of_getElem? (i := 0) rfl) mX8_rest (c_rest l G n ad _ x8 x5) ⟨by decide, by decide⟩ rfl (Nat.le_of_ble_eq_true rfl) ⟨Nat.zero_le _, Nat.zero_le _⟩ (fun r9 hp10 => ?_)
  rw [hx8, hx5, if_pos (by omega)] at hp10
  have br9 := mod_b (a := (wd.toInt - (((FDf ic md yy mm) + (ic 8).toInt) % (ic 7).toInt))) (b := (ic 7).toInt) (by omega)
  obtain ⟨W0, eW0⟩ : ∃ z : Int, z = (wd.toInt - (((FDf ic md yy mm) + (ic 8).toInt) % (ic 7).toInt)) % (ic 7).toInt := ⟨_, rfl⟩
  rw [← eW0] at hp10 br9
  refine v_istore (lv' := [(0, .ref (ad 1)), (1, .int y), (2, .int m), (3, .int wd), (4, .int k), (5, .int r1), (6, .int r3), (7, .int x5), (8, .int r9)]) C [1, 2, 3, 4, 5, 6, 7, 8, 0] dX0_nthWeekday_39 (by decide) rfl ?_
  refine v_iload C 4 dX0_nthWeekday_41 rfl ?_
  refine v_iconst (v := 4) C dX0_nthWeekday_43 (by decide) ?_
  refine b_icmp_ge C 60 dX0_nthWeekday_44 (by decide) (rfl : Int32.toInt k = _) (show (4 : Int32).toInt = 4 by decide) (fun c11 => ?_) (fun c11 => ?_)
  · refine v_iload C 8 dX0_nthWeekday_60 rfl ?_
    refine v_iload C 6 dX0_nthWeekday_62 rfl ?_
    refine b_icmp_ge C 85 dX0_nthWeekday_64 (by decide) hp10 hp4 (fun c12 => ?_) (fun c12 => ?_)
    · refine v_iload C 8 dX0_nthWeekday_85 rfl ?_
      refine v_iload C 6 dX0_nthWeekday_87 rfl ?_
      refine b_icmp_ge C 100 dX0_nthWeekday_89 (by decide) hp10 hp4 (fun c13 => ?_) (fun c13 => ?_)
      · refine v_iconst (v := (-1)) C dX0_nthWeekday_100 (by decide) ?_
        exact v_ret C dX0_nthWeekday_101 rfl rfl ⟨by rw [show (-1 : Int32).toInt = -1 by decide]; have e0 : W0f ic md (12 * yy + mm) wd.toInt = W0 := by { unfold W0f; rw [FK_of hm2, eW0] }; unfold NWf WOf; rw [e0, LK_of hm2, FK_of hm2]; (repeat first | rw [if_pos (by omega)] | rw [if_neg (by omega)]); try omega, rfl⟩
      · refine v_iload C 5 dX0_nthWeekday_92 rfl ?_
        refine v_iload C 8 dX0_nthWeekday_94 rfl ?_
        refine v_iadd C dX0_nthWeekday_96 ?_
        refine v_top (fun x14 ex14 => ?_)
        have hx14 : x14.toInt = ((FDf ic md yy mm) + W0) := by rw [ex14]; exact ti_add hp2 hp10 (by omega) (by omega)
        refine v_goto C 101 dX0_nthWeekday_97 (by decide) ?_
        exact v_ret C dX0_nthWeekday_101 rfl rfl ⟨by have e0 : W0f ic md (12 * yy + mm) wd.toInt = W0 := by { unfold W0f; rw [FK_of hm2, eW0] }; unfold NWf WOf; rw [e0, LK_of hm2, FK_of hm2]; (repeat first | rw [if_pos (by omega)] | rw [if_neg (by omega)]); try omega, rfl⟩
    · refine v_iload C 8 dX0_nthWeekday_67 rfl ?_
      refine v_iload C 6 dX0_nthWeekday_69 rfl ?_
      refine v_iconst (v := 1) C dX0_nthWeekday_71 (by decide) ?_
      refine v_isub C dX0_nthWeekday_72 ?_
      refine v_top (fun x15 ex15 => ?_)
      have hx15 : x15.toInt = ((DIf ic md yy mm) - 1) := by rw [ex15]; exact ti_sub hp4 (show (1 : Int32).toInt = 1 by decide) (by omega) (by omega)
      refine v_iload C 8 dX0_nthWeekday_73 rfl ?_
      refine v_isub C dX0_nthWeekday_75 ?_
      refine v_top (fun x16 ex16 => ?_)
      have hx16 : x16.toInt = (((DIf ic md yy mm) - 1) - W0) := by rw [ex16]; exact ti_sub hx15 hp10 (by omega) (by omega)
      refine v_iload C 7 dX0_nthWeekday_76 rfl ?_
      refine v_idiv C dX0_nthWeekday_78 (ti_ne hx5 (show (0 : Int32).toInt = 0 by decide) (by omega)) ?_
      refine v_top (fun x17 ex17 => ?_)
      have hx17 : x17.toInt = ((((DIf ic md yy mm) - 1) - W0) / (ic 7).toInt) := by rw [ex17]; exact ti_div hx16 hx5 (by omega) (by omega)
      have bd := div_b (a := DIf ic md yy mm - 1 - W0) (b := (ic 7).toInt) (by omega) (by omega)
      refine v_iload C 7 dX0_nthWeekday_79 rfl ?_
      refine v_imul C dX0_nthWeekday_81 ?_
      refine v_top (fun x18 ex18 => ?_)
      have hx18 : x18.toInt = (((((DIf ic md yy mm) - 1) - W0) / (ic 7).toInt) * (ic 7).toInt) := by rw [ex18]; exact ti_mul hx17 hx5 (by omega) (by omega)
      refine v_iadd C dX0_nthWeekday_82 ?_
      refine v_top (fun x19 ex19 => ?_)
      have hx19 : x19.toInt = (W0 + (((((DIf ic md yy mm) - 1) - W0) / (ic 7).toInt) * (ic 7).toInt)) := by rw [ex19]; exact ti_add hp10 hx18 (by omega) (by omega)
      refine v_istore (lv' := [(0, .ref (ad 1)), (1, .int y), (2, .int m), (3, .int wd), (4, .int k), (5, .int r1), (6, .int r3), (7, .int x5), (8, .int x19)]) C [1, 2, 3, 4, 5, 6, 7, 8, 0] dX0_nthWeekday_83 (by decide) rfl ?_
      refine v_iload C 8 dX0_nthWeekday_85 rfl ?_
      refine v_iload C 6 dX0_nthWeekday_87 rfl ?_
      refine b_icmp_ge C 100 dX0_nthWeekday_89 (by decide) hx19 hp4 (fun c20 => ?_) (fun c20 => ?_)
      · refine v_iconst (v := (-1)) C dX0_nthWeekday_100 (by decide) ?_
        exact v_ret C dX0_nthWeekday_101 rfl rfl ⟨by rw [show (-1 : Int32).toInt = -1 by decide]; have e0 : W0f ic md (12 * yy + mm) wd.toInt = W0 := by { unfold W0f; rw [FK_of hm2, eW0] }; unfold NWf WOf; rw [e0, LK_of hm2, FK_of hm2]; (repeat first | rw [if_pos (by omega)] | rw [if_neg (by omega)]); try omega, rfl⟩
      · refine v_iload C 5 dX0_nthWeekday_92 rfl ?_
        refine v_iload C 8 dX0_nthWeekday_94 rfl ?_
        refine v_iadd C dX0_nthWeekday_96 ?_
        refine v_top (fun x21 ex21 => ?_)
        have hx21 : x21.toInt = ((FDf ic md yy mm) + (W0 + (((((DIf ic md yy mm) - 1) - W0) / (ic 7).toInt) * (ic 7).toInt))) := by rw [ex21]; exact ti_add hp2 hx19 (by omega) (by omega)
        refine v_goto C 101 dX0_nthWeekday_97 (by decide) ?_
        exact v_ret C dX0_nthWeekday_101 rfl rfl ⟨by have e0 : W0f ic md (12 * yy + mm) wd.toInt = W0 := by { unfold W0f; rw [FK_of hm2, eW0] }; unfold NWf WOf; rw [e0, LK_of hm2, FK_of hm2]; (repeat first | rw [if_pos (by omega)] | rw [if_neg (by omega)]); try omega, rfl⟩
  · refine v_iload C 8 dX0_nthWeekday_47 rfl ?_
    refine v_iload C 4 dX0_nthWeekday_49 rfl ?_
    refine v_iload C 7 dX0_nthWeekday_51 rfl ?_
    refine v_imul C dX0_nthWeekday_53 ?_
    refine v_top (fun x22 ex22 => ?_)
    have hx22 : x22.toInt = (k.toInt * (ic 7).toInt) := by rw [ex22]; exact ti_mul (rfl : Int32.toInt k = _) hx5 (by omega) (by omega)
    refine v_iadd C dX0_nthWeekday_54 ?_
    refine v_top (fun x23 ex23 => ?_)
    have hx23 : x23.toInt = (W0 + (k.toInt * (ic 7).toInt)) := by rw [ex23]; exact ti_add hp10 hx22 (by omega) (by omega)
    refine v_istore (lv' := [(0, .ref (ad 1)), (1, .int y), (2, .int m), (3, .int wd), (4, .int k), (5, .int r1), (6, .int r3), (7, .int x5), (8, .int x23)]) C [1, 2, 3, 4, 5, 6, 7, 8, 0] dX0_nthWeekday_55 (by decide) rfl ?_
    refine v_goto C 85 dX0_nthWeekday_57 (by decide) ?_
    refine v_iload C 8 dX0_nthWeekday_85 rfl ?_
    refine v_iload C 6 dX0_nthWeekday_87 rfl ?_
    refine b_icmp_ge C 100 dX0_nthWeekday_89 (by decide) hx23 hp4 (fun c24 => ?_) (fun c24 => ?_)
    · refine v_iconst (v := (-1)) C dX0_nthWeekday_100 (by decide) ?_
      exact v_ret C dX0_nthWeekday_101 rfl rfl ⟨by rw [show (-1 : Int32).toInt = -1 by decide]; have e0 : W0f ic md (12 * yy + mm) wd.toInt = W0 := by { unfold W0f; rw [FK_of hm2, eW0] }; unfold NWf WOf; rw [e0, LK_of hm2, FK_of hm2]; (repeat first | rw [if_pos (by omega)] | rw [if_neg (by omega)]); try omega, rfl⟩
    · refine v_iload C 5 dX0_nthWeekday_92 rfl ?_
      refine v_iload C 8 dX0_nthWeekday_94 rfl ?_
      refine v_iadd C dX0_nthWeekday_96 ?_
      refine v_top (fun x25 ex25 => ?_)
      have hx25 : x25.toInt = ((FDf ic md yy mm) + (W0 + (k.toInt * (ic 7).toInt))) := by rw [ex25]; exact ti_add hp2 hx23 (by omega) (by omega)
      refine v_goto C 101 dX0_nthWeekday_97 (by decide) ?_
      exact v_ret C dX0_nthWeekday_101 rfl rfl ⟨by have e0 : W0f ic md (12 * yy + mm) wd.toInt = W0 := by { unfold W0f; rw [FK_of hm2, eW0] }; unfold NWf WOf; rw [e0, LK_of hm2, FK_of hm2]; (repeat first | rw [if_pos (by omega)] | rw [if_neg (by omega)]); try omega, rfl⟩

