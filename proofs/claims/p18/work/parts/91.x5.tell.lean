set_option maxRecDepth 20000 in
theorem h_clear (l : Launch) (G : Gl) (n : Nat) (ad : Nat → Nat) (E : Nat → va_E) (hN : 68 ≤ n) {io iz : Nat → Int32} (hE0 : E 0 = ob 8 (rfs ad [1, 6, 8, 48, 45, 51]) io) (hE6 : E 6 = ob 7 (rfs ad [7]) iz) {fp : Nat → Option Nat} (hE8 : E 8 = aQ G 4 6 fp) (hfp : ∀ i, i < 6 → fp i = some (ad (9 + 6 * i))) {fl : Nat → Int32} {fo fx fy : Nat → Nat → Int32} (hPg : ∀ i, i < 6 → PgX G ad (9 + 6 * i) E (fl i) (fo i) (fx i) (fy i)) (hbl : ∀ i, 0 ≤ (fl i).toInt ∧ (fl i).toInt ≤ 10) (p : Int32)  : CtI l G yX8_clear cX8_clear 4 .int 4 88 n ad E [.ref (ad 0), .int p] (fun r E' => (¬ (0 ≤ p.toInt ∧ p.toInt < 6) ∧ r.toInt = -1 ∧ E = E') ∨ (∃ i : Nat, i < 6 ∧ p.toInt = (i : Int) ∧ r = fl i ∧ PgX G ad (9 + 6 * i) E' 0 (fo i) (fx i) (fy i) ∧ Fr6 (9 + 6 * i) E E')) := by
  refine CtI.of (by decide) (Nat.le_of_ble_eq_true rfl) (fun X A C => ?_)
  refine v_sub (lv' := [(0, .ref (ad 0)), (1, .int p)]) [0, 1] rfl ?_
  refine v_aload_n C 0 dX8_clear_0 rfl rfl ?_
  refine v_iload_n C 1 dX8_clear_1 rfl rfl ?_
  refine v_cVr C dX8_clear_2 lX8_177 mX8_programAt 0 (by omega) hE0 (by decide) rfl (g_programAt l G n ad _ (by omega) hE0 hE8 hfp p) ⟨by decide, by decide⟩ rfl (Nat.le_of_ble_eq_true rfl) ⟨Nat.zero_le _, Nat.zero_le _⟩ (fun r1 hp2 => ?_)
  rcases hp2 with ⟨hno, rfl⟩ | ⟨i, hi, hpi, rfl⟩
  · refine v_astore_nN (lv' := [(0, .ref (ad 0)), (1, .int p), (2, .null)]) C [1, 2, 0] dX8_clear_5 rfl (by decide) rfl ?_
    refine v_aload_nN C 2 dX8_clear_6 rfl rfl ?_
    refine v_ifnonnullN C dX8_clear_7 ?_
    refine v_iconst (v := (-1)) C dX8_clear_10 (by decide) ?_
    exact v_ret C dX8_clear_11 rfl rfl (Or.inl ⟨by omega, by decide, rfl⟩)
  · obtain ⟨ip, po, px, py, tp, kd, hc0, hsz, -, -, -, -, -, -, -, -, -, hft⟩ := id (hPg i hi)
    have hbi := hbl i
    have hsi : (ip 6).toInt = (fl i).toInt := by rw [hsz]
    refine v_astore_n (lv' := [(0, .ref (ad 0)), (1, .int p), (2, .ref (ad (9 + 6 * i)))]) C [1, 2, 0] dX8_clear_5 rfl (by decide) rfl ?_
    refine v_aload_n C 2 dX8_clear_6 rfl rfl ?_
    refine v_ifnonnull C 12 dX8_clear_7 (by decide) ?_
    refine v_aload_n C 2 dX8_clear_12 rfl rfl ?_
    refine v_geti (v := ip 6) C (9 + 6 * i) dX8_clear_13 fX8_181 (by omega) hc0 rfl rfl ?_
    refine v_istore_n (lv' := [(0, .ref (ad 0)), (1, .int p), (2, .ref (ad (9 + 6 * i))), (3, .int (ip 6))]) C [1, 2, 3, 0] dX8_clear_16 rfl (by decide) rfl ?_
    refine v_aload_n C 2 dX8_clear_17 rfl rfl ?_
    refine v_cVv C dX8_clear_18 lX8_182 mX5_empty (9 + 6 * i) (by omega) hc0 (by decide) rfl (f_empty l G n ad _ (9 + 6 * i) (by omega) (hPg i hi) hbi.1 hbi.2) ⟨by decide, by decide⟩ rfl (Nat.le_of_ble_eq_true rfl) ⟨Nat.zero_le _, Nat.zero_le _⟩ (fun E3 hq4 => ?_)
    refine v_iload_n C 3 dX8_clear_21 rfl rfl ?_
    exact v_ret C dX8_clear_22 rfl rfl (Or.inr ⟨i, hi, hpi, hsz, hq4.1, hq4.2⟩)

set_option maxRecDepth 20000 in
theorem h_line (l : Launch) (G : Gl) (n : Nat) (ad : Nat → Nat) (E : Nat → va_E) (hN : 68 ≤ n) {io iz : Nat → Int32} (hE0 : E 0 = ob 8 (rfs ad [1, 6, 8, 48, 45, 51]) io) (hE6 : E 6 = ob 7 (rfs ad [7]) iz) {fp : Nat → Option Nat} (hE8 : E 8 = aQ G 4 6 fp) (hfp : ∀ i, i < 6 → fp i = some (ad (9 + 6 * i))) {fl : Nat → Int32} {fo fx fy : Nat → Nat → Int32} (hPg : ∀ i, i < 6 → PgX G ad (9 + 6 * i) E (fl i) (fo i) (fx i) (fy i)) (hbl : ∀ i, 0 ≤ (fl i).toInt ∧ (fl i).toInt ≤ 10) (p op x y : Int32)  : CtI l G yX8_line cX8_line 7 .int 5 115 n ad E [.ref (ad 0), .int p, .int op, .int x, .int y] (fun r E' => (¬ (0 ≤ p.toInt ∧ p.toInt < 6 ∧ okLn (iz 1).toInt op.toInt x.toInt y.toInt) ∧ r.toInt = -1 ∧ E = E') ∨ (∃ i : Nat, i < 6 ∧ p.toInt = (i : Int) ∧ okLn (iz 1).toInt op.toInt x.toInt y.toInt ∧ (fl i).toInt = 10 ∧ r.toInt = -2 ∧ E = E') ∨ (∃ i : Nat, i < 6 ∧ p.toInt = (i : Int) ∧ okLn (iz 1).toInt op.toInt x.toInt y.toInt ∧ (fl i).toInt < 10 ∧ r.toInt = (fl i).toInt ∧ PgX G ad (9 + 6 * i) E' (fl i + 1) (upd (fo i) (fl i).toInt.toNat op) (upd (fx i) (fl i).toInt.toNat x) (upd (fy i) (fl i).toInt.toNat y) ∧ Fr6 (9 + 6 * i) E E')) := by
  refine CtI.of (by decide) (Nat.le_of_ble_eq_true rfl) (fun X A C => ?_)
  refine v_sub (lv' := [(0, .ref (ad 0)), (1, .int p), (2, .int op), (3, .int x), (4, .int y)]) [0, 1, 2, 3, 4] rfl ?_
  refine v_aload_n C 0 dX8_line_0 rfl rfl ?_
  refine v_iload_n C 1 dX8_line_1 rfl rfl ?_
  refine v_cVr C dX8_line_2 lX8_177 mX8_programAt 0 (by omega) hE0 (by decide) rfl (g_programAt l G n ad _ (by omega) hE0 hE8 hfp p) ⟨by decide, by decide⟩ rfl (Nat.le_of_ble_eq_true rfl) ⟨Nat.zero_le _, Nat.zero_le _⟩ (fun r1 hp2 => ?_)
  rcases hp2 with ⟨hno, rfl⟩ | ⟨i, hi, hpi, rfl⟩
  · refine v_astoreN (lv' := [(0, .ref (ad 0)), (1, .int p), (2, .int op), (3, .int x), (4, .int y), (5, .null)]) C [1, 2, 3, 4, 5, 0] dX8_line_5 (by decide) rfl ?_
    refine v_aloadN C 5 dX8_line_7 rfl ?_
    refine v_ifnullN C 37 dX8_line_9 (by decide) ?_
    refine v_iconst (v := (-1)) C dX8_line_37 (by decide) ?_
    exact v_ret C dX8_line_38 rfl rfl (Or.inl ⟨(by unfold okLn; omega), by decide, rfl⟩)
  · obtain ⟨ip, po, px, py, tp, kd, hc0, hsz, -, -, -, -, -, -, -, -, -, hft⟩ := id (hPg i hi)
    have hbi := hbl i
    have hsi : (ip 6).toInt = (fl i).toInt := by rw [hsz]
    refine v_astore (lv' := [(0, .ref (ad 0)), (1, .int p), (2, .int op), (3, .int x), (4, .int y), (5, .ref (ad (9 + 6 * i)))]) C [1, 2, 3, 4, 5, 0] dX8_line_5 (by decide) rfl ?_
    refine v_aload C 5 dX8_line_7 rfl ?_
    refine v_ifnull C dX8_line_9 ?_
    refine v_iload_n C 2 dX8_line_12 rfl rfl ?_
    refine b_if_lt C 37 dX8_line_13 (by decide) (rfl : Int32.toInt op = _) (fun c3 => ?_) (fun c3 => ?_)
    · refine v_iconst (v := (-1)) C dX8_line_37 (by decide) ?_
      exact v_ret C dX8_line_38 rfl rfl (Or.inl ⟨(by unfold okLn; omega), by decide, rfl⟩)
    · refine v_iload_n C 2 dX8_line_16 rfl rfl ?_
      refine v_bipush (v := 12) C dX8_line_17 (by decide) ?_
      refine b_icmp_ge C 37 dX8_line_19 (by decide) (rfl : Int32.toInt op = _) (show (12 : Int32).toInt = 12 by decide) (fun c4 => ?_) (fun c4 => ?_)
      · refine v_iconst (v := (-1)) C dX8_line_37 (by decide) ?_
        exact v_ret C dX8_line_38 rfl rfl (Or.inl ⟨(by unfold okLn; omega), by decide, rfl⟩)
      · refine v_iload C 4 dX8_line_22 rfl ?_
        refine b_if_lt C 37 dX8_line_24 (by decide) (rfl : Int32.toInt y = _) (fun c5 => ?_) (fun c5 => ?_)
        · refine v_iconst (v := (-1)) C dX8_line_37 (by decide) ?_
          exact v_ret C dX8_line_38 rfl rfl (Or.inl ⟨(by unfold okLn; omega), by decide, rfl⟩)
        · rcases (show op.toInt = 0 ∨ op.toInt = 1 ∨ op.toInt = 2 ∨ op.toInt = 3 ∨ op.toInt = 4 ∨ op.toInt = 5 ∨ op.toInt = 6 ∨ op.toInt = 7 ∨ op.toInt = 8 ∨ op.toInt = 9 ∨ op.toInt = 10 ∨ op.toInt = 11 by omega) with q6 | q6 | q6 | q6 | q6 | q6 | q6 | q6 | q6 | q6 | q6 | q6
          · obtain rfl : op = 0 := ti_ext (by rw [q6]; decide)
            refine v_iload C 4 dX8_line_27 rfl ?_
            refine v_gstY C dX8_line_29 (in_t3 (List.mem_of_getElem? (i := 81) rfl) rfl) ?_
            refine v_iload_n C 2 dX8_line_32 rfl rfl ?_
            refine v_lstY (v := 0) C dX8_line_33 (ti_in (show (0 : Int32).toInt = 0 by decide) (by omega) (by omega)) (by decide) ?_
            refine b_icmp_le C 39 dX8_line_34 (by decide) (rfl : Int32.toInt y = _) (show (0 : Int32).toInt = 0 by decide) (fun c7 => ?_) (fun c7 => ?_)
            · refine v_iload_n C 2 dX8_line_39 rfl rfl ?_
              refine v_iconst (v := 1) C dX8_line_40 (by decide) ?_
              refine b_icmp_eq C 49 dX8_line_41 (by decide) (show (0 : Int32).toInt = 0 by decide) (show (1 : Int32).toInt = 1 by decide) (fun c8 => absurd c8 (by decide)) (fun c8 => ?_)
              refine v_iload_n C 2 dX8_line_44 rfl rfl ?_
              refine v_iconst (v := 4) C dX8_line_45 (by decide) ?_
              refine b_icmp_ne C 53 dX8_line_46 (by decide) (show (0 : Int32).toInt = 0 by decide) (show (4 : Int32).toInt = 4 by decide) (fun c9 => ?_) (fun c9 => absurd c9 (by decide))
              refine v_iconst (v := 0) C dX8_line_53 (by decide) ?_
              refine v_istore (lv' := [(0, .ref (ad 0)), (1, .int p), (2, .int 0), (3, .int x), (4, .int y), (5, .ref (ad (9 + 6 * i))), (6, .int 0)]) C [1, 2, 3, 4, 5, 6, 0] dX8_line_54 (by decide) rfl ?_
              refine v_iload_n C 3 dX8_line_56 rfl rfl ?_
              refine v_gstL C dX8_line_57 (in_t3 (List.mem_of_getElem? (i := 83) rfl) rfl) ?_
              refine v_iload_n C 2 dX8_line_60 rfl rfl ?_
              refine v_lstL (v := 0) C dX8_line_61 (ti_in (show (0 : Int32).toInt = 0 by decide) (by omega) (by omega)) (by decide) ?_
              refine b_icmp_lt C 93 dX8_line_62 (by decide) (rfl : Int32.toInt x = _) (show (0 : Int32).toInt = 0 by decide) (fun c10 => ?_) (fun c10 => ?_)
              · refine v_iconst (v := (-1)) C dX8_line_93 (by decide) ?_
                exact v_ret C dX8_line_94 rfl rfl (Or.inl ⟨(by have hq := (show (0 : Int32).toInt = 0 by decide); unfold okLn; omega), by decide, rfl⟩)
              · refine v_iload C 6 dX8_line_65 rfl ?_
                refine b_if_eq C 84 dX8_line_67 (by decide) (show (0 : Int32).toInt = 0 by decide) (fun c11 => ?_) (fun c11 => absurd c11 (by decide))
                refine v_iload_n C 3 dX8_line_84 rfl rfl ?_
                refine v_gstX C dX8_line_85 (in_t3 (List.mem_of_getElem? (i := 85) rfl) rfl) ?_
                refine v_iload_n C 2 dX8_line_88 rfl rfl ?_
                refine v_lstX (v := 0) C dX8_line_89 (ti_in (show (0 : Int32).toInt = 0 by decide) (by omega) (by omega)) (by decide) ?_
                refine b_icmp_le C 95 dX8_line_90 (by decide) (rfl : Int32.toInt x = _) (show (0 : Int32).toInt = 0 by decide) (fun c12 => ?_) (fun c12 => ?_)
                · refine v_aload C 5 dX8_line_95 rfl ?_
                  refine v_geti (v := ip 6) C (9 + 6 * i) dX8_line_97 fX8_181 (by omega) hc0 rfl rfl ?_
                  refine v_bipush (v := 10) C dX8_line_100 (by decide) ?_
                  refine b_icmp_lt C 108 dX8_line_102 (by decide) hsi (show (10 : Int32).toInt = 10 by decide) (fun c13 => ?_) (fun c13 => ?_)
                  · refine v_aload C 5 dX8_line_108 rfl ?_
                    refine v_iload_n C 2 dX8_line_110 rfl rfl ?_
                    refine v_iload_n C 3 dX8_line_111 rfl rfl ?_
                    refine v_iload C 4 dX8_line_112 rfl ?_
                    refine v_cVv C dX8_line_114 lX8_194 mX5_append (9 + 6 * i) (by omega) hc0 (by decide) rfl (f_append l G n ad _ (9 + 6 * i) (by omega) (hPg i hi) hbi.1 hbi.2 0 x y (by decide)) ⟨by decide, by decide⟩ rfl (Nat.le_of_ble_eq_true rfl) ⟨Nat.zero_le _, Nat.zero_le _⟩ (fun E14 hq15 => ?_)
                    rcases hq15 with ⟨hbad, -⟩ | ⟨hz1, hz3, hz4⟩
                    · exact absurd hbad (by omega)
                    obtain ⟨jp, jo, jx, jy, jt, jd, hd0, hdz, -⟩ := id hz3
                    have hdj : (jp 6).toInt = (fl i).toInt + 1 := by rw [hdz, ti_add (rfl : (fl i).toInt = _) (show (1 : Int32).toInt = 1 by decide) (by omega) (by omega)]
                    refine v_aload C 5 dX8_line_117 rfl ?_
                    refine v_geti (v := jp 6) C (9 + 6 * i) dX8_line_119 fX8_181 (by omega) hd0 rfl rfl ?_
                    refine v_iconst (v := 1) C dX8_line_122 (by decide) ?_
                    refine v_isub C dX8_line_123 ?_
                    refine v_top (fun x16 ex16 => ?_)
                    have hx16 : x16.toInt = (((fl i).toInt + 1) - 1) := by rw [ex16]; exact ti_sub hdj (show (1 : Int32).toInt = 1 by decide) (by omega) (by omega)
                    exact v_ret C dX8_line_124 rfl rfl (Or.inr (Or.inr ⟨i, hi, hpi, (by have hq := (show (0 : Int32).toInt = 0 by decide); unfold okLn; omega), by omega, (by rw [hx16]; omega), hz3, hz4⟩))
                  · refine v_bipush (v := (-2)) C dX8_line_105 (by decide) ?_
                    exact v_ret C dX8_line_107 rfl rfl (Or.inr (Or.inl ⟨i, hi, hpi, (by have hq := (show (0 : Int32).toInt = 0 by decide); unfold okLn; omega), by omega, by decide, rfl⟩))
                · refine v_iconst (v := (-1)) C dX8_line_93 (by decide) ?_
                  exact v_ret C dX8_line_94 rfl rfl (Or.inl ⟨(by have hq := (show (0 : Int32).toInt = 0 by decide); unfold okLn; omega), by decide, rfl⟩)
            · refine v_iconst (v := (-1)) C dX8_line_37 (by decide) ?_
              exact v_ret C dX8_line_38 rfl rfl (Or.inl ⟨(by have hq := (show (0 : Int32).toInt = 0 by decide); unfold okLn; omega), by decide, rfl⟩)
          · obtain rfl : op = 1 := ti_ext (by rw [q6]; decide)
            refine v_iload C 4 dX8_line_27 rfl ?_
            refine v_gstY C dX8_line_29 (in_t3 (List.mem_of_getElem? (i := 81) rfl) rfl) ?_
            refine v_iload_n C 2 dX8_line_32 rfl rfl ?_
            refine v_lstY (v := 0) C dX8_line_33 (ti_in (show (1 : Int32).toInt = 1 by decide) (by omega) (by omega)) (by decide) ?_
            refine b_icmp_le C 39 dX8_line_34 (by decide) (rfl : Int32.toInt y = _) (show (0 : Int32).toInt = 0 by decide) (fun c17 => ?_) (fun c17 => ?_)
            · refine v_iload_n C 2 dX8_line_39 rfl rfl ?_
              refine v_iconst (v := 1) C dX8_line_40 (by decide) ?_
              refine b_icmp_eq C 49 dX8_line_41 (by decide) (show (1 : Int32).toInt = 1 by decide) (show (1 : Int32).toInt = 1 by decide) (fun c18 => ?_) (fun c18 => absurd c18 (by decide))
              refine v_iconst (v := 1) C dX8_line_49 (by decide) ?_
              refine v_goto C 54 dX8_line_50 (by decide) ?_
              refine v_istore (lv' := [(0, .ref (ad 0)), (1, .int p), (2, .int 1), (3, .int x), (4, .int y), (5, .ref (ad (9 + 6 * i))), (6, .int 1)]) C [1, 2, 3, 4, 5, 6, 0] dX8_line_54 (by decide) rfl ?_
              refine v_iload_n C 3 dX8_line_56 rfl rfl ?_
              refine v_gstL C dX8_line_57 (in_t3 (List.mem_of_getElem? (i := 83) rfl) rfl) ?_
              refine v_iload_n C 2 dX8_line_60 rfl rfl ?_
              refine v_lstL (v := 0) C dX8_line_61 (ti_in (show (1 : Int32).toInt = 1 by decide) (by omega) (by omega)) (by decide) ?_
              refine b_icmp_lt C 93 dX8_line_62 (by decide) (rfl : Int32.toInt x = _) (show (0 : Int32).toInt = 0 by decide) (fun c19 => ?_) (fun c19 => ?_)
              · refine v_iconst (v := (-1)) C dX8_line_93 (by decide) ?_
                exact v_ret C dX8_line_94 rfl rfl (Or.inl ⟨(by have hq := (show (1 : Int32).toInt = 1 by decide); unfold okLn; omega), by decide, rfl⟩)
              · refine v_iload C 6 dX8_line_65 rfl ?_
                refine b_if_eq C 84 dX8_line_67 (by decide) (show (1 : Int32).toInt = 1 by decide) (fun c20 => absurd c20 (by decide)) (fun c20 => ?_)
                refine v_iload_n C 3 dX8_line_70 rfl rfl ?_
                refine v_aload_n C 0 dX8_line_71 rfl rfl ?_
                refine v_getr C 0 dX8_line_72 fX8_19 (by omega) hE0 rfl rfl ?_
                refine v_geti (v := iz 1) C 6 dX8_line_75 fX8_64 (by omega) hE6 rfl rfl ?_
                refine b_icmp_lt C 95 dX8_line_78 (by decide) (rfl : Int32.toInt x = _) (rfl : Int32.toInt (iz 1) = _) (fun c21 => ?_) (fun c21 => ?_)
                · refine v_aload C 5 dX8_line_95 rfl ?_
                  refine v_geti (v := ip 6) C (9 + 6 * i) dX8_line_97 fX8_181 (by omega) hc0 rfl rfl ?_
                  refine v_bipush (v := 10) C dX8_line_100 (by decide) ?_
                  refine b_icmp_lt C 108 dX8_line_102 (by decide) hsi (show (10 : Int32).toInt = 10 by decide) (fun c22 => ?_) (fun c22 => ?_)
                  · refine v_aload C 5 dX8_line_108 rfl ?_
                    refine v_iload_n C 2 dX8_line_110 rfl rfl ?_
                    refine v_iload_n C 3 dX8_line_111 rfl rfl ?_
                    refine v_iload C 4 dX8_line_112 rfl ?_
                    refine v_cVv C dX8_line_114 lX8_194 mX5_append (9 + 6 * i) (by omega) hc0 (by decide) rfl (f_append l G n ad _ (9 + 6 * i) (by omega) (hPg i hi) hbi.1 hbi.2 1 x y (by decide)) ⟨by decide, by decide⟩ rfl (Nat.le_of_ble_eq_true rfl) ⟨Nat.zero_le _, Nat.zero_le _⟩ (fun E23 hq24 => ?_)
                    rcases hq24 with ⟨hbad, -⟩ | ⟨hz1, hz3, hz4⟩
                    · exact absurd hbad (by omega)
                    obtain ⟨jp, jo, jx, jy, jt, jd, hd0, hdz, -⟩ := id hz3
                    have hdj : (jp 6).toInt = (fl i).toInt + 1 := by rw [hdz, ti_add (rfl : (fl i).toInt = _) (show (1 : Int32).toInt = 1 by decide) (by omega) (by omega)]
                    refine v_aload C 5 dX8_line_117 rfl ?_
                    refine v_geti (v := jp 6) C (9 + 6 * i) dX8_line_119 fX8_181 (by omega) hd0 rfl rfl ?_
                    refine v_iconst (v := 1) C dX8_line_122 (by decide) ?_
                    refine v_isub C dX8_line_123 ?_
                    refine v_top (fun x25 ex25 => ?_)
                    have hx25 : x25.toInt = (((fl i).toInt + 1) - 1) := by rw [ex25]; exact ti_sub hdj (show (1 : Int32).toInt = 1 by decide) (by omega) (by omega)
                    exact v_ret C dX8_line_124 rfl rfl (Or.inr (Or.inr ⟨i, hi, hpi, (by have hq := (show (1 : Int32).toInt = 1 by decide); unfold okLn; omega), by omega, (by rw [hx25]; omega), hz3, hz4⟩))
                  · refine v_bipush (v := (-2)) C dX8_line_105 (by decide) ?_
                    exact v_ret C dX8_line_107 rfl rfl (Or.inr (Or.inl ⟨i, hi, hpi, (by have hq := (show (1 : Int32).toInt = 1 by decide); unfold okLn; omega), by omega, by decide, rfl⟩))
                · refine v_goto C 93 dX8_line_81 (by decide) ?_
                  refine v_iconst (v := (-1)) C dX8_line_93 (by decide) ?_
                  exact v_ret C dX8_line_94 rfl rfl (Or.inl ⟨(by have hq := (show (1 : Int32).toInt = 1 by decide); unfold okLn; omega), by decide, rfl⟩)
            · refine v_iconst (v := (-1)) C dX8_line_37 (by decide) ?_
              exact v_ret C dX8_line_38 rfl rfl (Or.inl ⟨(by have hq := (show (1 : Int32).toInt = 1 by decide); unfold okLn; omega), by decide, rfl⟩)
          · obtain rfl : op = 2 := ti_ext (by rw [q6]; decide)
            refine v_iload C 4 dX8_line_27 rfl ?_
            refine v_gstY C dX8_line_29 (in_t3 (List.mem_of_getElem? (i := 81) rfl) rfl) ?_
            refine v_iload_n C 2 dX8_line_32 rfl rfl ?_
            refine v_lstY (v := 0) C dX8_line_33 (ti_in (show (2 : Int32).toInt = 2 by decide) (by omega) (by omega)) (by decide) ?_
            refine b_icmp_le C 39 dX8_line_34 (by decide) (rfl : Int32.toInt y = _) (show (0 : Int32).toInt = 0 by decide) (fun c26 => ?_) (fun c26 => ?_)
            · refine v_iload_n C 2 dX8_line_39 rfl rfl ?_
              refine v_iconst (v := 1) C dX8_line_40 (by decide) ?_
              refine b_icmp_eq C 49 dX8_line_41 (by decide) (show (2 : Int32).toInt = 2 by decide) (show (1 : Int32).toInt = 1 by decide) (fun c27 => absurd c27 (by decide)) (fun c27 => ?_)
              refine v_iload_n C 2 dX8_line_44 rfl rfl ?_
              refine v_iconst (v := 4) C dX8_line_45 (by decide) ?_
              refine b_icmp_ne C 53 dX8_line_46 (by decide) (show (2 : Int32).toInt = 2 by decide) (show (4 : Int32).toInt = 4 by decide) (fun c28 => ?_) (fun c28 => absurd c28 (by decide))
              refine v_iconst (v := 0) C dX8_line_53 (by decide) ?_
              refine v_istore (lv' := [(0, .ref (ad 0)), (1, .int p), (2, .int 2), (3, .int x), (4, .int y), (5, .ref (ad (9 + 6 * i))), (6, .int 0)]) C [1, 2, 3, 4, 5, 6, 0] dX8_line_54 (by decide) rfl ?_
              refine v_iload_n C 3 dX8_line_56 rfl rfl ?_
              refine v_gstL C dX8_line_57 (in_t3 (List.mem_of_getElem? (i := 83) rfl) rfl) ?_
              refine v_iload_n C 2 dX8_line_60 rfl rfl ?_
              refine v_lstL (v := 0) C dX8_line_61 (ti_in (show (2 : Int32).toInt = 2 by decide) (by omega) (by omega)) (by decide) ?_
              refine b_icmp_lt C 93 dX8_line_62 (by decide) (rfl : Int32.toInt x = _) (show (0 : Int32).toInt = 0 by decide) (fun c29 => ?_) (fun c29 => ?_)
              · refine v_iconst (v := (-1)) C dX8_line_93 (by decide) ?_
                exact v_ret C dX8_line_94 rfl rfl (Or.inl ⟨(by have hq := (show (2 : Int32).toInt = 2 by decide); unfold okLn; omega), by decide, rfl⟩)
              · refine v_iload C 6 dX8_line_65 rfl ?_
                refine b_if_eq C 84 dX8_line_67 (by decide) (show (0 : Int32).toInt = 0 by decide) (fun c30 => ?_) (fun c30 => absurd c30 (by decide))
                refine v_iload_n C 3 dX8_line_84 rfl rfl ?_
                refine v_gstX C dX8_line_85 (in_t3 (List.mem_of_getElem? (i := 85) rfl) rfl) ?_
                refine v_iload_n C 2 dX8_line_88 rfl rfl ?_
                refine v_lstX (v := 0) C dX8_line_89 (ti_in (show (2 : Int32).toInt = 2 by decide) (by omega) (by omega)) (by decide) ?_
                refine b_icmp_le C 95 dX8_line_90 (by decide) (rfl : Int32.toInt x = _) (show (0 : Int32).toInt = 0 by decide) (fun c31 => ?_) (fun c31 => ?_)
                · refine v_aload C 5 dX8_line_95 rfl ?_
                  refine v_geti (v := ip 6) C (9 + 6 * i) dX8_line_97 fX8_181 (by omega) hc0 rfl rfl ?_
                  refine v_bipush (v := 10) C dX8_line_100 (by decide) ?_
                  refine b_icmp_lt C 108 dX8_line_102 (by decide) hsi (show (10 : Int32).toInt = 10 by decide) (fun c32 => ?_) (fun c32 => ?_)
                  · refine v_aload C 5 dX8_line_108 rfl ?_
                    refine v_iload_n C 2 dX8_line_110 rfl rfl ?_
                    refine v_iload_n C 3 dX8_line_111 rfl rfl ?_
                    refine v_iload C 4 dX8_line_112 rfl ?_
                    refine v_cVv C dX8_line_114 lX8_194 mX5_append (9 + 6 * i) (by omega) hc0 (by decide) rfl (f_append l G n ad _ (9 + 6 * i) (by omega) (hPg i hi) hbi.1 hbi.2 2 x y (by decide)) ⟨by decide, by decide⟩ rfl (Nat.le_of_ble_eq_true rfl) ⟨Nat.zero_le _, Nat.zero_le _⟩ (fun E33 hq34 => ?_)
                    rcases hq34 with ⟨hbad, -⟩ | ⟨hz1, hz3, hz4⟩
                    · exact absurd hbad (by omega)
                    obtain ⟨jp, jo, jx, jy, jt, jd, hd0, hdz, -⟩ := id hz3
                    have hdj : (jp 6).toInt = (fl i).toInt + 1 := by rw [hdz, ti_add (rfl : (fl i).toInt = _) (show (1 : Int32).toInt = 1 by decide) (by omega) (by omega)]
                    refine v_aload C 5 dX8_line_117 rfl ?_
                    refine v_geti (v := jp 6) C (9 + 6 * i) dX8_line_119 fX8_181 (by omega) hd0 rfl rfl ?_
                    refine v_iconst (v := 1) C dX8_line_122 (by decide) ?_
                    refine v_isub C dX8_line_123 ?_
                    refine v_top (fun x35 ex35 => ?_)
                    have hx35 : x35.toInt = (((fl i).toInt + 1) - 1) := by rw [ex35]; exact ti_sub hdj (show (1 : Int32).toInt = 1 by decide) (by omega) (by omega)
                    exact v_ret C dX8_line_124 rfl rfl (Or.inr (Or.inr ⟨i, hi, hpi, (by have hq := (show (2 : Int32).toInt = 2 by decide); unfold okLn; omega), by omega, (by rw [hx35]; omega), hz3, hz4⟩))
                  · refine v_bipush (v := (-2)) C dX8_line_105 (by decide) ?_
                    exact v_ret C dX8_line_107 rfl rfl (Or.inr (Or.inl ⟨i, hi, hpi, (by have hq := (show (2 : Int32).toInt = 2 by decide); unfold okLn; omega), by omega, by decide, rfl⟩))
                · refine v_iconst (v := (-1)) C dX8_line_93 (by decide) ?_
                  exact v_ret C dX8_line_94 rfl rfl (Or.inl ⟨(by have hq := (show (2 : Int32).toInt = 2 by decide); unfold okLn; omega), by decide, rfl⟩)
            · refine v_iconst (v := (-1)) C dX8_line_37 (by decide) ?_
              exact v_ret C dX8_line_38 rfl rfl (Or.inl ⟨(by have hq := (show (2 : Int32).toInt = 2 by decide); unfold okLn; omega), by decide, rfl⟩)
          · obtain rfl : op = 3 := ti_ext (by rw [q6]; decide)
            refine v_iload C 4 dX8_line_27 rfl ?_
            refine v_gstY C dX8_line_29 (in_t3 (List.mem_of_getElem? (i := 81) rfl) rfl) ?_
            refine v_iload_n C 2 dX8_line_32 rfl rfl ?_
            refine v_lstY (v := 0) C dX8_line_33 (ti_in (show (3 : Int32).toInt = 3 by decide) (by omega) (by omega)) (by decide) ?_
            refine b_icmp_le C 39 dX8_line_34 (by decide) (rfl : Int32.toInt y = _) (show (0 : Int32).toInt = 0 by decide) (fun c36 => ?_) (fun c36 => ?_)
            · refine v_iload_n C 2 dX8_line_39 rfl rfl ?_
              refine v_iconst (v := 1) C dX8_line_40 (by decide) ?_
              refine b_icmp_eq C 49 dX8_line_41 (by decide) (show (3 : Int32).toInt = 3 by decide) (show (1 : Int32).toInt = 1 by decide) (fun c37 => absurd c37 (by decide)) (fun c37 => ?_)
              refine v_iload_n C 2 dX8_line_44 rfl rfl ?_
              refine v_iconst (v := 4) C dX8_line_45 (by decide) ?_
              refine b_icmp_ne C 53 dX8_line_46 (by decide) (show (3 : Int32).toInt = 3 by decide) (show (4 : Int32).toInt = 4 by decide) (fun c38 => ?_) (fun c38 => absurd c38 (by decide))
              refine v_iconst (v := 0) C dX8_line_53 (by decide) ?_
              refine v_istore (lv' := [(0, .ref (ad 0)), (1, .int p), (2, .int 3), (3, .int x), (4, .int y), (5, .ref (ad (9 + 6 * i))), (6, .int 0)]) C [1, 2, 3, 4, 5, 6, 0] dX8_line_54 (by decide) rfl ?_
              refine v_iload_n C 3 dX8_line_56 rfl rfl ?_
              refine v_gstL C dX8_line_57 (in_t3 (List.mem_of_getElem? (i := 83) rfl) rfl) ?_
              refine v_iload_n C 2 dX8_line_60 rfl rfl ?_
              refine v_lstL (v := 0) C dX8_line_61 (ti_in (show (3 : Int32).toInt = 3 by decide) (by omega) (by omega)) (by decide) ?_
              refine b_icmp_lt C 93 dX8_line_62 (by decide) (rfl : Int32.toInt x = _) (show (0 : Int32).toInt = 0 by decide) (fun c39 => ?_) (fun c39 => ?_)
              · refine v_iconst (v := (-1)) C dX8_line_93 (by decide) ?_
                exact v_ret C dX8_line_94 rfl rfl (Or.inl ⟨(by have hq := (show (3 : Int32).toInt = 3 by decide); unfold okLn; omega), by decide, rfl⟩)
              · refine v_iload C 6 dX8_line_65 rfl ?_
                refine b_if_eq C 84 dX8_line_67 (by decide) (show (0 : Int32).toInt = 0 by decide) (fun c40 => ?_) (fun c40 => absurd c40 (by decide))
                refine v_iload_n C 3 dX8_line_84 rfl rfl ?_
                refine v_gstX C dX8_line_85 (in_t3 (List.mem_of_getElem? (i := 85) rfl) rfl) ?_
                refine v_iload_n C 2 dX8_line_88 rfl rfl ?_
                refine v_lstX (v := 1439) C dX8_line_89 (ti_in (show (3 : Int32).toInt = 3 by decide) (by omega) (by omega)) (by decide) ?_
                refine b_icmp_le C 95 dX8_line_90 (by decide) (rfl : Int32.toInt x = _) (show (1439 : Int32).toInt = 1439 by decide) (fun c41 => ?_) (fun c41 => ?_)
                · refine v_aload C 5 dX8_line_95 rfl ?_
                  refine v_geti (v := ip 6) C (9 + 6 * i) dX8_line_97 fX8_181 (by omega) hc0 rfl rfl ?_
                  refine v_bipush (v := 10) C dX8_line_100 (by decide) ?_
                  refine b_icmp_lt C 108 dX8_line_102 (by decide) hsi (show (10 : Int32).toInt = 10 by decide) (fun c42 => ?_) (fun c42 => ?_)
                  · refine v_aload C 5 dX8_line_108 rfl ?_
                    refine v_iload_n C 2 dX8_line_110 rfl rfl ?_
                    refine v_iload_n C 3 dX8_line_111 rfl rfl ?_
                    refine v_iload C 4 dX8_line_112 rfl ?_
                    refine v_cVv C dX8_line_114 lX8_194 mX5_append (9 + 6 * i) (by omega) hc0 (by decide) rfl (f_append l G n ad _ (9 + 6 * i) (by omega) (hPg i hi) hbi.1 hbi.2 3 x y (by decide)) ⟨by decide, by decide⟩ rfl (Nat.le_of_ble_eq_true rfl) ⟨Nat.zero_le _, Nat.zero_le _⟩ (fun E43 hq44 => ?_)
                    rcases hq44 with ⟨hbad, -⟩ | ⟨hz1, hz3, hz4⟩
                    · exact absurd hbad (by omega)
                    obtain ⟨jp, jo, jx, jy, jt, jd, hd0, hdz, -⟩ := id hz3
                    have hdj : (jp 6).toInt = (fl i).toInt + 1 := by rw [hdz, ti_add (rfl : (fl i).toInt = _) (show (1 : Int32).toInt = 1 by decide) (by omega) (by omega)]
                    refine v_aload C 5 dX8_line_117 rfl ?_
                    refine v_geti (v := jp 6) C (9 + 6 * i) dX8_line_119 fX8_181 (by omega) hd0 rfl rfl ?_
                    refine v_iconst (v := 1) C dX8_line_122 (by decide) ?_
                    refine v_isub C dX8_line_123 ?_
                    refine v_top (fun x45 ex45 => ?_)
                    have hx45 : x45.toInt = (((fl i).toInt + 1) - 1) := by rw [ex45]; exact ti_sub hdj (show (1 : Int32).toInt = 1 by decide) (by omega) (by omega)
                    exact v_ret C dX8_line_124 rfl rfl (Or.inr (Or.inr ⟨i, hi, hpi, (by have hq := (show (3 : Int32).toInt = 3 by decide); unfold okLn; omega), by omega, (by rw [hx45]; omega), hz3, hz4⟩))
                  · refine v_bipush (v := (-2)) C dX8_line_105 (by decide) ?_
                    exact v_ret C dX8_line_107 rfl rfl (Or.inr (Or.inl ⟨i, hi, hpi, (by have hq := (show (3 : Int32).toInt = 3 by decide); unfold okLn; omega), by omega, by decide, rfl⟩))
                · refine v_iconst (v := (-1)) C dX8_line_93 (by decide) ?_
                  exact v_ret C dX8_line_94 rfl rfl (Or.inl ⟨(by have hq := (show (3 : Int32).toInt = 3 by decide); unfold okLn; omega), by decide, rfl⟩)
            · refine v_iconst (v := (-1)) C dX8_line_37 (by decide) ?_
              exact v_ret C dX8_line_38 rfl rfl (Or.inl ⟨(by have hq := (show (3 : Int32).toInt = 3 by decide); unfold okLn; omega), by decide, rfl⟩)
          · obtain rfl : op = 4 := ti_ext (by rw [q6]; decide)
            refine v_iload C 4 dX8_line_27 rfl ?_
            refine v_gstY C dX8_line_29 (in_t3 (List.mem_of_getElem? (i := 81) rfl) rfl) ?_
            refine v_iload_n C 2 dX8_line_32 rfl rfl ?_
            refine v_lstY (v := 1) C dX8_line_33 (ti_in (show (4 : Int32).toInt = 4 by decide) (by omega) (by omega)) (by decide) ?_
            refine b_icmp_le C 39 dX8_line_34 (by decide) (rfl : Int32.toInt y = _) (show (1 : Int32).toInt = 1 by decide) (fun c46 => ?_) (fun c46 => ?_)
            · refine v_iload_n C 2 dX8_line_39 rfl rfl ?_
              refine v_iconst (v := 1) C dX8_line_40 (by decide) ?_
              refine b_icmp_eq C 49 dX8_line_41 (by decide) (show (4 : Int32).toInt = 4 by decide) (show (1 : Int32).toInt = 1 by decide) (fun c47 => absurd c47 (by decide)) (fun c47 => ?_)
              refine v_iload_n C 2 dX8_line_44 rfl rfl ?_
              refine v_iconst (v := 4) C dX8_line_45 (by decide) ?_
              refine b_icmp_ne C 53 dX8_line_46 (by decide) (show (4 : Int32).toInt = 4 by decide) (show (4 : Int32).toInt = 4 by decide) (fun c48 => absurd c48 (by decide)) (fun c48 => ?_)
              refine v_iconst (v := 1) C dX8_line_49 (by decide) ?_
              refine v_goto C 54 dX8_line_50 (by decide) ?_
              refine v_istore (lv' := [(0, .ref (ad 0)), (1, .int p), (2, .int 4), (3, .int x), (4, .int y), (5, .ref (ad (9 + 6 * i))), (6, .int 1)]) C [1, 2, 3, 4, 5, 6, 0] dX8_line_54 (by decide) rfl ?_
              refine v_iload_n C 3 dX8_line_56 rfl rfl ?_
              refine v_gstL C dX8_line_57 (in_t3 (List.mem_of_getElem? (i := 83) rfl) rfl) ?_
              refine v_iload_n C 2 dX8_line_60 rfl rfl ?_
              refine v_lstL (v := 0) C dX8_line_61 (ti_in (show (4 : Int32).toInt = 4 by decide) (by omega) (by omega)) (by decide) ?_
              refine b_icmp_lt C 93 dX8_line_62 (by decide) (rfl : Int32.toInt x = _) (show (0 : Int32).toInt = 0 by decide) (fun c49 => ?_) (fun c49 => ?_)
              · refine v_iconst (v := (-1)) C dX8_line_93 (by decide) ?_
                exact v_ret C dX8_line_94 rfl rfl (Or.inl ⟨(by have hq := (show (4 : Int32).toInt = 4 by decide); unfold okLn; omega), by decide, rfl⟩)
              · refine v_iload C 6 dX8_line_65 rfl ?_
                refine b_if_eq C 84 dX8_line_67 (by decide) (show (1 : Int32).toInt = 1 by decide) (fun c50 => absurd c50 (by decide)) (fun c50 => ?_)
                refine v_iload_n C 3 dX8_line_70 rfl rfl ?_
                refine v_aload_n C 0 dX8_line_71 rfl rfl ?_
                refine v_getr C 0 dX8_line_72 fX8_19 (by omega) hE0 rfl rfl ?_
                refine v_geti (v := iz 1) C 6 dX8_line_75 fX8_64 (by omega) hE6 rfl rfl ?_
                refine b_icmp_lt C 95 dX8_line_78 (by decide) (rfl : Int32.toInt x = _) (rfl : Int32.toInt (iz 1) = _) (fun c51 => ?_) (fun c51 => ?_)
                · refine v_aload C 5 dX8_line_95 rfl ?_
                  refine v_geti (v := ip 6) C (9 + 6 * i) dX8_line_97 fX8_181 (by omega) hc0 rfl rfl ?_
                  refine v_bipush (v := 10) C dX8_line_100 (by decide) ?_
                  refine b_icmp_lt C 108 dX8_line_102 (by decide) hsi (show (10 : Int32).toInt = 10 by decide) (fun c52 => ?_) (fun c52 => ?_)
                  · refine v_aload C 5 dX8_line_108 rfl ?_
                    refine v_iload_n C 2 dX8_line_110 rfl rfl ?_
                    refine v_iload_n C 3 dX8_line_111 rfl rfl ?_
                    refine v_iload C 4 dX8_line_112 rfl ?_
                    refine v_cVv C dX8_line_114 lX8_194 mX5_append (9 + 6 * i) (by omega) hc0 (by decide) rfl (f_append l G n ad _ (9 + 6 * i) (by omega) (hPg i hi) hbi.1 hbi.2 4 x y (by decide)) ⟨by decide, by decide⟩ rfl (Nat.le_of_ble_eq_true rfl) ⟨Nat.zero_le _, Nat.zero_le _⟩ (fun E53 hq54 => ?_)
                    rcases hq54 with ⟨hbad, -⟩ | ⟨hz1, hz3, hz4⟩
                    · exact absurd hbad (by omega)
                    obtain ⟨jp, jo, jx, jy, jt, jd, hd0, hdz, -⟩ := id hz3
                    have hdj : (jp 6).toInt = (fl i).toInt + 1 := by rw [hdz, ti_add (rfl : (fl i).toInt = _) (show (1 : Int32).toInt = 1 by decide) (by omega) (by omega)]
                    refine v_aload C 5 dX8_line_117 rfl ?_
                    refine v_geti (v := jp 6) C (9 + 6 * i) dX8_line_119 fX8_181 (by omega) hd0 rfl rfl ?_
                    refine v_iconst (v := 1) C dX8_line_122 (by decide) ?_
                    refine v_isub C dX8_line_123 ?_
                    refine v_top (fun x55 ex55 => ?_)
                    have hx55 : x55.toInt = (((fl i).toInt + 1) - 1) := by rw [ex55]; exact ti_sub hdj (show (1 : Int32).toInt = 1 by decide) (by omega) (by omega)
                    exact v_ret C dX8_line_124 rfl rfl (Or.inr (Or.inr ⟨i, hi, hpi, (by have hq := (show (4 : Int32).toInt = 4 by decide); unfold okLn; omega), by omega, (by rw [hx55]; omega), hz3, hz4⟩))
                  · refine v_bipush (v := (-2)) C dX8_line_105 (by decide) ?_
                    exact v_ret C dX8_line_107 rfl rfl (Or.inr (Or.inl ⟨i, hi, hpi, (by have hq := (show (4 : Int32).toInt = 4 by decide); unfold okLn; omega), by omega, by decide, rfl⟩))
                · refine v_goto C 93 dX8_line_81 (by decide) ?_
                  refine v_iconst (v := (-1)) C dX8_line_93 (by decide) ?_
                  exact v_ret C dX8_line_94 rfl rfl (Or.inl ⟨(by have hq := (show (4 : Int32).toInt = 4 by decide); unfold okLn; omega), by decide, rfl⟩)
            · refine v_iconst (v := (-1)) C dX8_line_37 (by decide) ?_
              exact v_ret C dX8_line_38 rfl rfl (Or.inl ⟨(by have hq := (show (4 : Int32).toInt = 4 by decide); unfold okLn; omega), by decide, rfl⟩)
          · obtain rfl : op = 5 := ti_ext (by rw [q6]; decide)
            refine v_iload C 4 dX8_line_27 rfl ?_
            refine v_gstY C dX8_line_29 (in_t3 (List.mem_of_getElem? (i := 81) rfl) rfl) ?_
            refine v_iload_n C 2 dX8_line_32 rfl rfl ?_
            refine v_lstY (v := 0) C dX8_line_33 (ti_in (show (5 : Int32).toInt = 5 by decide) (by omega) (by omega)) (by decide) ?_
            refine b_icmp_le C 39 dX8_line_34 (by decide) (rfl : Int32.toInt y = _) (show (0 : Int32).toInt = 0 by decide) (fun c56 => ?_) (fun c56 => ?_)
            · refine v_iload_n C 2 dX8_line_39 rfl rfl ?_
              refine v_iconst (v := 1) C dX8_line_40 (by decide) ?_
              refine b_icmp_eq C 49 dX8_line_41 (by decide) (show (5 : Int32).toInt = 5 by decide) (show (1 : Int32).toInt = 1 by decide) (fun c57 => absurd c57 (by decide)) (fun c57 => ?_)
              refine v_iload_n C 2 dX8_line_44 rfl rfl ?_
              refine v_iconst (v := 4) C dX8_line_45 (by decide) ?_
              refine b_icmp_ne C 53 dX8_line_46 (by decide) (show (5 : Int32).toInt = 5 by decide) (show (4 : Int32).toInt = 4 by decide) (fun c58 => ?_) (fun c58 => absurd c58 (by decide))
              refine v_iconst (v := 0) C dX8_line_53 (by decide) ?_
              refine v_istore (lv' := [(0, .ref (ad 0)), (1, .int p), (2, .int 5), (3, .int x), (4, .int y), (5, .ref (ad (9 + 6 * i))), (6, .int 0)]) C [1, 2, 3, 4, 5, 6, 0] dX8_line_54 (by decide) rfl ?_
              refine v_iload_n C 3 dX8_line_56 rfl rfl ?_
              refine v_gstL C dX8_line_57 (in_t3 (List.mem_of_getElem? (i := 83) rfl) rfl) ?_
              refine v_iload_n C 2 dX8_line_60 rfl rfl ?_
              refine v_lstL (v := (-9999)) C dX8_line_61 (ti_in (show (5 : Int32).toInt = 5 by decide) (by omega) (by omega)) (by decide) ?_
              refine b_icmp_lt C 93 dX8_line_62 (by decide) (rfl : Int32.toInt x = _) (show ((-9999) : Int32).toInt = (-9999) by decide) (fun c59 => ?_) (fun c59 => ?_)
              · refine v_iconst (v := (-1)) C dX8_line_93 (by decide) ?_
                exact v_ret C dX8_line_94 rfl rfl (Or.inl ⟨(by have hq := (show (5 : Int32).toInt = 5 by decide); unfold okLn; omega), by decide, rfl⟩)
              · refine v_iload C 6 dX8_line_65 rfl ?_
                refine b_if_eq C 84 dX8_line_67 (by decide) (show (0 : Int32).toInt = 0 by decide) (fun c60 => ?_) (fun c60 => absurd c60 (by decide))
                refine v_iload_n C 3 dX8_line_84 rfl rfl ?_
                refine v_gstX C dX8_line_85 (in_t3 (List.mem_of_getElem? (i := 85) rfl) rfl) ?_
                refine v_iload_n C 2 dX8_line_88 rfl rfl ?_
                refine v_lstX (v := 9999) C dX8_line_89 (ti_in (show (5 : Int32).toInt = 5 by decide) (by omega) (by omega)) (by decide) ?_
                refine b_icmp_le C 95 dX8_line_90 (by decide) (rfl : Int32.toInt x = _) (show (9999 : Int32).toInt = 9999 by decide) (fun c61 => ?_) (fun c61 => ?_)
                · refine v_aload C 5 dX8_line_95 rfl ?_
                  refine v_geti (v := ip 6) C (9 + 6 * i) dX8_line_97 fX8_181 (by omega) hc0 rfl rfl ?_
                  refine v_bipush (v := 10) C dX8_line_100 (by decide) ?_
                  refine b_icmp_lt C 108 dX8_line_102 (by decide) hsi (show (10 : Int32).toInt = 10 by decide) (fun c62 => ?_) (fun c62 => ?_)
                  · refine v_aload C 5 dX8_line_108 rfl ?_
                    refine v_iload_n C 2 dX8_line_110 rfl rfl ?_
                    refine v_iload_n C 3 dX8_line_111 rfl rfl ?_
                    refine v_iload C 4 dX8_line_112 rfl ?_
                    refine v_cVv C dX8_line_114 lX8_194 mX5_append (9 + 6 * i) (by omega) hc0 (by decide) rfl (f_append l G n ad _ (9 + 6 * i) (by omega) (hPg i hi) hbi.1 hbi.2 5 x y (by decide)) ⟨by decide, by decide⟩ rfl (Nat.le_of_ble_eq_true rfl) ⟨Nat.zero_le _, Nat.zero_le _⟩ (fun E63 hq64 => ?_)
                    rcases hq64 with ⟨hbad, -⟩ | ⟨hz1, hz3, hz4⟩
                    · exact absurd hbad (by omega)
                    obtain ⟨jp, jo, jx, jy, jt, jd, hd0, hdz, -⟩ := id hz3
                    have hdj : (jp 6).toInt = (fl i).toInt + 1 := by rw [hdz, ti_add (rfl : (fl i).toInt = _) (show (1 : Int32).toInt = 1 by decide) (by omega) (by omega)]
                    refine v_aload C 5 dX8_line_117 rfl ?_
                    refine v_geti (v := jp 6) C (9 + 6 * i) dX8_line_119 fX8_181 (by omega) hd0 rfl rfl ?_
                    refine v_iconst (v := 1) C dX8_line_122 (by decide) ?_
                    refine v_isub C dX8_line_123 ?_
                    refine v_top (fun x65 ex65 => ?_)
                    have hx65 : x65.toInt = (((fl i).toInt + 1) - 1) := by rw [ex65]; exact ti_sub hdj (show (1 : Int32).toInt = 1 by decide) (by omega) (by omega)
                    exact v_ret C dX8_line_124 rfl rfl (Or.inr (Or.inr ⟨i, hi, hpi, (by have hq := (show (5 : Int32).toInt = 5 by decide); unfold okLn; omega), by omega, (by rw [hx65]; omega), hz3, hz4⟩))
                  · refine v_bipush (v := (-2)) C dX8_line_105 (by decide) ?_
                    exact v_ret C dX8_line_107 rfl rfl (Or.inr (Or.inl ⟨i, hi, hpi, (by have hq := (show (5 : Int32).toInt = 5 by decide); unfold okLn; omega), by omega, by decide, rfl⟩))
                · refine v_iconst (v := (-1)) C dX8_line_93 (by decide) ?_
                  exact v_ret C dX8_line_94 rfl rfl (Or.inl ⟨(by have hq := (show (5 : Int32).toInt = 5 by decide); unfold okLn; omega), by decide, rfl⟩)
            · refine v_iconst (v := (-1)) C dX8_line_37 (by decide) ?_
              exact v_ret C dX8_line_38 rfl rfl (Or.inl ⟨(by have hq := (show (5 : Int32).toInt = 5 by decide); unfold okLn; omega), by decide, rfl⟩)
          · obtain rfl : op = 6 := ti_ext (by rw [q6]; decide)
            refine v_iload C 4 dX8_line_27 rfl ?_
            refine v_gstY C dX8_line_29 (in_t3 (List.mem_of_getElem? (i := 81) rfl) rfl) ?_
            refine v_iload_n C 2 dX8_line_32 rfl rfl ?_
            refine v_lstY (v := 0) C dX8_line_33 (ti_in (show (6 : Int32).toInt = 6 by decide) (by omega) (by omega)) (by decide) ?_
            refine b_icmp_le C 39 dX8_line_34 (by decide) (rfl : Int32.toInt y = _) (show (0 : Int32).toInt = 0 by decide) (fun c66 => ?_) (fun c66 => ?_)
            · refine v_iload_n C 2 dX8_line_39 rfl rfl ?_
              refine v_iconst (v := 1) C dX8_line_40 (by decide) ?_
              refine b_icmp_eq C 49 dX8_line_41 (by decide) (show (6 : Int32).toInt = 6 by decide) (show (1 : Int32).toInt = 1 by decide) (fun c67 => absurd c67 (by decide)) (fun c67 => ?_)
              refine v_iload_n C 2 dX8_line_44 rfl rfl ?_
              refine v_iconst (v := 4) C dX8_line_45 (by decide) ?_
              refine b_icmp_ne C 53 dX8_line_46 (by decide) (show (6 : Int32).toInt = 6 by decide) (show (4 : Int32).toInt = 4 by decide) (fun c68 => ?_) (fun c68 => absurd c68 (by decide))
              refine v_iconst (v := 0) C dX8_line_53 (by decide) ?_
              refine v_istore (lv' := [(0, .ref (ad 0)), (1, .int p), (2, .int 6), (3, .int x), (4, .int y), (5, .ref (ad (9 + 6 * i))), (6, .int 0)]) C [1, 2, 3, 4, 5, 6, 0] dX8_line_54 (by decide) rfl ?_
              refine v_iload_n C 3 dX8_line_56 rfl rfl ?_
              refine v_gstL C dX8_line_57 (in_t3 (List.mem_of_getElem? (i := 83) rfl) rfl) ?_
              refine v_iload_n C 2 dX8_line_60 rfl rfl ?_
              refine v_lstL (v := (-999)) C dX8_line_61 (ti_in (show (6 : Int32).toInt = 6 by decide) (by omega) (by omega)) (by decide) ?_
              refine b_icmp_lt C 93 dX8_line_62 (by decide) (rfl : Int32.toInt x = _) (show ((-999) : Int32).toInt = (-999) by decide) (fun c69 => ?_) (fun c69 => ?_)
              · refine v_iconst (v := (-1)) C dX8_line_93 (by decide) ?_
                exact v_ret C dX8_line_94 rfl rfl (Or.inl ⟨(by have hq := (show (6 : Int32).toInt = 6 by decide); unfold okLn; omega), by decide, rfl⟩)
              · refine v_iload C 6 dX8_line_65 rfl ?_
                refine b_if_eq C 84 dX8_line_67 (by decide) (show (0 : Int32).toInt = 0 by decide) (fun c70 => ?_) (fun c70 => absurd c70 (by decide))
                refine v_iload_n C 3 dX8_line_84 rfl rfl ?_
                refine v_gstX C dX8_line_85 (in_t3 (List.mem_of_getElem? (i := 85) rfl) rfl) ?_
                refine v_iload_n C 2 dX8_line_88 rfl rfl ?_
                refine v_lstX (v := 999) C dX8_line_89 (ti_in (show (6 : Int32).toInt = 6 by decide) (by omega) (by omega)) (by decide) ?_
                refine b_icmp_le C 95 dX8_line_90 (by decide) (rfl : Int32.toInt x = _) (show (999 : Int32).toInt = 999 by decide) (fun c71 => ?_) (fun c71 => ?_)
                · refine v_aload C 5 dX8_line_95 rfl ?_
                  refine v_geti (v := ip 6) C (9 + 6 * i) dX8_line_97 fX8_181 (by omega) hc0 rfl rfl ?_
                  refine v_bipush (v := 10) C dX8_line_100 (by decide) ?_
                  refine b_icmp_lt C 108 dX8_line_102 (by decide) hsi (show (10 : Int32).toInt = 10 by decide) (fun c72 => ?_) (fun c72 => ?_)
                  · refine v_aload C 5 dX8_line_108 rfl ?_
                    refine v_iload_n C 2 dX8_line_110 rfl rfl ?_
                    refine v_iload_n C 3 dX8_line_111 rfl rfl ?_
                    refine v_iload C 4 dX8_line_112 rfl ?_
                    refine v_cVv C dX8_line_114 lX8_194 mX5_append (9 + 6 * i) (by omega) hc0 (by decide) rfl (f_append l G n ad _ (9 + 6 * i) (by omega) (hPg i hi) hbi.1 hbi.2 6 x y (by decide)) ⟨by decide, by decide⟩ rfl (Nat.le_of_ble_eq_true rfl) ⟨Nat.zero_le _, Nat.zero_le _⟩ (fun E73 hq74 => ?_)
                    rcases hq74 with ⟨hbad, -⟩ | ⟨hz1, hz3, hz4⟩
                    · exact absurd hbad (by omega)
                    obtain ⟨jp, jo, jx, jy, jt, jd, hd0, hdz, -⟩ := id hz3
                    have hdj : (jp 6).toInt = (fl i).toInt + 1 := by rw [hdz, ti_add (rfl : (fl i).toInt = _) (show (1 : Int32).toInt = 1 by decide) (by omega) (by omega)]
                    refine v_aload C 5 dX8_line_117 rfl ?_
                    refine v_geti (v := jp 6) C (9 + 6 * i) dX8_line_119 fX8_181 (by omega) hd0 rfl rfl ?_
                    refine v_iconst (v := 1) C dX8_line_122 (by decide) ?_
                    refine v_isub C dX8_line_123 ?_
                    refine v_top (fun x75 ex75 => ?_)
                    have hx75 : x75.toInt = (((fl i).toInt + 1) - 1) := by rw [ex75]; exact ti_sub hdj (show (1 : Int32).toInt = 1 by decide) (by omega) (by omega)
                    exact v_ret C dX8_line_124 rfl rfl (Or.inr (Or.inr ⟨i, hi, hpi, (by have hq := (show (6 : Int32).toInt = 6 by decide); unfold okLn; omega), by omega, (by rw [hx75]; omega), hz3, hz4⟩))
                  · refine v_bipush (v := (-2)) C dX8_line_105 (by decide) ?_
                    exact v_ret C dX8_line_107 rfl rfl (Or.inr (Or.inl ⟨i, hi, hpi, (by have hq := (show (6 : Int32).toInt = 6 by decide); unfold okLn; omega), by omega, by decide, rfl⟩))
                · refine v_iconst (v := (-1)) C dX8_line_93 (by decide) ?_
                  exact v_ret C dX8_line_94 rfl rfl (Or.inl ⟨(by have hq := (show (6 : Int32).toInt = 6 by decide); unfold okLn; omega), by decide, rfl⟩)
            · refine v_iconst (v := (-1)) C dX8_line_37 (by decide) ?_
              exact v_ret C dX8_line_38 rfl rfl (Or.inl ⟨(by have hq := (show (6 : Int32).toInt = 6 by decide); unfold okLn; omega), by decide, rfl⟩)
          · obtain rfl : op = 7 := ti_ext (by rw [q6]; decide)
            refine v_iload C 4 dX8_line_27 rfl ?_
            refine v_gstY C dX8_line_29 (in_t3 (List.mem_of_getElem? (i := 81) rfl) rfl) ?_
            refine v_iload_n C 2 dX8_line_32 rfl rfl ?_
            refine v_lstY (v := 2) C dX8_line_33 (ti_in (show (7 : Int32).toInt = 7 by decide) (by omega) (by omega)) (by decide) ?_
            refine b_icmp_le C 39 dX8_line_34 (by decide) (rfl : Int32.toInt y = _) (show (2 : Int32).toInt = 2 by decide) (fun c76 => ?_) (fun c76 => ?_)
            · refine v_iload_n C 2 dX8_line_39 rfl rfl ?_
              refine v_iconst (v := 1) C dX8_line_40 (by decide) ?_
              refine b_icmp_eq C 49 dX8_line_41 (by decide) (show (7 : Int32).toInt = 7 by decide) (show (1 : Int32).toInt = 1 by decide) (fun c77 => absurd c77 (by decide)) (fun c77 => ?_)
              refine v_iload_n C 2 dX8_line_44 rfl rfl ?_
              refine v_iconst (v := 4) C dX8_line_45 (by decide) ?_
              refine b_icmp_ne C 53 dX8_line_46 (by decide) (show (7 : Int32).toInt = 7 by decide) (show (4 : Int32).toInt = 4 by decide) (fun c78 => ?_) (fun c78 => absurd c78 (by decide))
              refine v_iconst (v := 0) C dX8_line_53 (by decide) ?_
              refine v_istore (lv' := [(0, .ref (ad 0)), (1, .int p), (2, .int 7), (3, .int x), (4, .int y), (5, .ref (ad (9 + 6 * i))), (6, .int 0)]) C [1, 2, 3, 4, 5, 6, 0] dX8_line_54 (by decide) rfl ?_
              refine v_iload_n C 3 dX8_line_56 rfl rfl ?_
              refine v_gstL C dX8_line_57 (in_t3 (List.mem_of_getElem? (i := 83) rfl) rfl) ?_
              refine v_iload_n C 2 dX8_line_60 rfl rfl ?_
              refine v_lstL (v := (-99)) C dX8_line_61 (ti_in (show (7 : Int32).toInt = 7 by decide) (by omega) (by omega)) (by decide) ?_
              refine b_icmp_lt C 93 dX8_line_62 (by decide) (rfl : Int32.toInt x = _) (show ((-99) : Int32).toInt = (-99) by decide) (fun c79 => ?_) (fun c79 => ?_)
              · refine v_iconst (v := (-1)) C dX8_line_93 (by decide) ?_
                exact v_ret C dX8_line_94 rfl rfl (Or.inl ⟨(by have hq := (show (7 : Int32).toInt = 7 by decide); unfold okLn; omega), by decide, rfl⟩)
              · refine v_iload C 6 dX8_line_65 rfl ?_
                refine b_if_eq C 84 dX8_line_67 (by decide) (show (0 : Int32).toInt = 0 by decide) (fun c80 => ?_) (fun c80 => absurd c80 (by decide))
                refine v_iload_n C 3 dX8_line_84 rfl rfl ?_
                refine v_gstX C dX8_line_85 (in_t3 (List.mem_of_getElem? (i := 85) rfl) rfl) ?_
                refine v_iload_n C 2 dX8_line_88 rfl rfl ?_
                refine v_lstX (v := 99) C dX8_line_89 (ti_in (show (7 : Int32).toInt = 7 by decide) (by omega) (by omega)) (by decide) ?_
                refine b_icmp_le C 95 dX8_line_90 (by decide) (rfl : Int32.toInt x = _) (show (99 : Int32).toInt = 99 by decide) (fun c81 => ?_) (fun c81 => ?_)
                · refine v_aload C 5 dX8_line_95 rfl ?_
                  refine v_geti (v := ip 6) C (9 + 6 * i) dX8_line_97 fX8_181 (by omega) hc0 rfl rfl ?_
                  refine v_bipush (v := 10) C dX8_line_100 (by decide) ?_
                  refine b_icmp_lt C 108 dX8_line_102 (by decide) hsi (show (10 : Int32).toInt = 10 by decide) (fun c82 => ?_) (fun c82 => ?_)
                  · refine v_aload C 5 dX8_line_108 rfl ?_
                    refine v_iload_n C 2 dX8_line_110 rfl rfl ?_
                    refine v_iload_n C 3 dX8_line_111 rfl rfl ?_
                    refine v_iload C 4 dX8_line_112 rfl ?_
                    refine v_cVv C dX8_line_114 lX8_194 mX5_append (9 + 6 * i) (by omega) hc0 (by decide) rfl (f_append l G n ad _ (9 + 6 * i) (by omega) (hPg i hi) hbi.1 hbi.2 7 x y (by decide)) ⟨by decide, by decide⟩ rfl (Nat.le_of_ble_eq_true rfl) ⟨Nat.zero_le _, Nat.zero_le _⟩ (fun E83 hq84 => ?_)
                    rcases hq84 with ⟨hbad, -⟩ | ⟨hz1, hz3, hz4⟩
                    · exact absurd hbad (by omega)
                    obtain ⟨jp, jo, jx, jy, jt, jd, hd0, hdz, -⟩ := id hz3
                    have hdj : (jp 6).toInt = (fl i).toInt + 1 := by rw [hdz, ti_add (rfl : (fl i).toInt = _) (show (1 : Int32).toInt = 1 by decide) (by omega) (by omega)]
                    refine v_aload C 5 dX8_line_117 rfl ?_
                    refine v_geti (v := jp 6) C (9 + 6 * i) dX8_line_119 fX8_181 (by omega) hd0 rfl rfl ?_
                    refine v_iconst (v := 1) C dX8_line_122 (by decide) ?_
                    refine v_isub C dX8_line_123 ?_
                    refine v_top (fun x85 ex85 => ?_)
                    have hx85 : x85.toInt = (((fl i).toInt + 1) - 1) := by rw [ex85]; exact ti_sub hdj (show (1 : Int32).toInt = 1 by decide) (by omega) (by omega)
                    exact v_ret C dX8_line_124 rfl rfl (Or.inr (Or.inr ⟨i, hi, hpi, (by have hq := (show (7 : Int32).toInt = 7 by decide); unfold okLn; omega), by omega, (by rw [hx85]; omega), hz3, hz4⟩))
                  · refine v_bipush (v := (-2)) C dX8_line_105 (by decide) ?_
                    exact v_ret C dX8_line_107 rfl rfl (Or.inr (Or.inl ⟨i, hi, hpi, (by have hq := (show (7 : Int32).toInt = 7 by decide); unfold okLn; omega), by omega, by decide, rfl⟩))
                · refine v_iconst (v := (-1)) C dX8_line_93 (by decide) ?_
                  exact v_ret C dX8_line_94 rfl rfl (Or.inl ⟨(by have hq := (show (7 : Int32).toInt = 7 by decide); unfold okLn; omega), by decide, rfl⟩)
            · refine v_iconst (v := (-1)) C dX8_line_37 (by decide) ?_
              exact v_ret C dX8_line_38 rfl rfl (Or.inl ⟨(by have hq := (show (7 : Int32).toInt = 7 by decide); unfold okLn; omega), by decide, rfl⟩)
          · obtain rfl : op = 8 := ti_ext (by rw [q6]; decide)
            refine v_iload C 4 dX8_line_27 rfl ?_
            refine v_gstY C dX8_line_29 (in_t3 (List.mem_of_getElem? (i := 81) rfl) rfl) ?_
            refine v_iload_n C 2 dX8_line_32 rfl rfl ?_
            refine v_lstY (v := 0) C dX8_line_33 (ti_in (show (8 : Int32).toInt = 8 by decide) (by omega) (by omega)) (by decide) ?_
            refine b_icmp_le C 39 dX8_line_34 (by decide) (rfl : Int32.toInt y = _) (show (0 : Int32).toInt = 0 by decide) (fun c86 => ?_) (fun c86 => ?_)
            · refine v_iload_n C 2 dX8_line_39 rfl rfl ?_
              refine v_iconst (v := 1) C dX8_line_40 (by decide) ?_
              refine b_icmp_eq C 49 dX8_line_41 (by decide) (show (8 : Int32).toInt = 8 by decide) (show (1 : Int32).toInt = 1 by decide) (fun c87 => absurd c87 (by decide)) (fun c87 => ?_)
              refine v_iload_n C 2 dX8_line_44 rfl rfl ?_
              refine v_iconst (v := 4) C dX8_line_45 (by decide) ?_
              refine b_icmp_ne C 53 dX8_line_46 (by decide) (show (8 : Int32).toInt = 8 by decide) (show (4 : Int32).toInt = 4 by decide) (fun c88 => ?_) (fun c88 => absurd c88 (by decide))
              refine v_iconst (v := 0) C dX8_line_53 (by decide) ?_
              refine v_istore (lv' := [(0, .ref (ad 0)), (1, .int p), (2, .int 8), (3, .int x), (4, .int y), (5, .ref (ad (9 + 6 * i))), (6, .int 0)]) C [1, 2, 3, 4, 5, 6, 0] dX8_line_54 (by decide) rfl ?_
              refine v_iload_n C 3 dX8_line_56 rfl rfl ?_
              refine v_gstL C dX8_line_57 (in_t3 (List.mem_of_getElem? (i := 83) rfl) rfl) ?_
              refine v_iload_n C 2 dX8_line_60 rfl rfl ?_
              refine v_lstL (v := 0) C dX8_line_61 (ti_in (show (8 : Int32).toInt = 8 by decide) (by omega) (by omega)) (by decide) ?_
              refine b_icmp_lt C 93 dX8_line_62 (by decide) (rfl : Int32.toInt x = _) (show (0 : Int32).toInt = 0 by decide) (fun c89 => ?_) (fun c89 => ?_)
              · refine v_iconst (v := (-1)) C dX8_line_93 (by decide) ?_
                exact v_ret C dX8_line_94 rfl rfl (Or.inl ⟨(by have hq := (show (8 : Int32).toInt = 8 by decide); unfold okLn; omega), by decide, rfl⟩)
              · refine v_iload C 6 dX8_line_65 rfl ?_
                refine b_if_eq C 84 dX8_line_67 (by decide) (show (0 : Int32).toInt = 0 by decide) (fun c90 => ?_) (fun c90 => absurd c90 (by decide))
                refine v_iload_n C 3 dX8_line_84 rfl rfl ?_
                refine v_gstX C dX8_line_85 (in_t3 (List.mem_of_getElem? (i := 85) rfl) rfl) ?_
                refine v_iload_n C 2 dX8_line_88 rfl rfl ?_
                refine v_lstX (v := 0) C dX8_line_89 (ti_in (show (8 : Int32).toInt = 8 by decide) (by omega) (by omega)) (by decide) ?_
                refine b_icmp_le C 95 dX8_line_90 (by decide) (rfl : Int32.toInt x = _) (show (0 : Int32).toInt = 0 by decide) (fun c91 => ?_) (fun c91 => ?_)
                · refine v_aload C 5 dX8_line_95 rfl ?_
                  refine v_geti (v := ip 6) C (9 + 6 * i) dX8_line_97 fX8_181 (by omega) hc0 rfl rfl ?_
                  refine v_bipush (v := 10) C dX8_line_100 (by decide) ?_
                  refine b_icmp_lt C 108 dX8_line_102 (by decide) hsi (show (10 : Int32).toInt = 10 by decide) (fun c92 => ?_) (fun c92 => ?_)
                  · refine v_aload C 5 dX8_line_108 rfl ?_
                    refine v_iload_n C 2 dX8_line_110 rfl rfl ?_
                    refine v_iload_n C 3 dX8_line_111 rfl rfl ?_
                    refine v_iload C 4 dX8_line_112 rfl ?_
                    refine v_cVv C dX8_line_114 lX8_194 mX5_append (9 + 6 * i) (by omega) hc0 (by decide) rfl (f_append l G n ad _ (9 + 6 * i) (by omega) (hPg i hi) hbi.1 hbi.2 8 x y (by decide)) ⟨by decide, by decide⟩ rfl (Nat.le_of_ble_eq_true rfl) ⟨Nat.zero_le _, Nat.zero_le _⟩ (fun E93 hq94 => ?_)
                    rcases hq94 with ⟨hbad, -⟩ | ⟨hz1, hz3, hz4⟩
                    · exact absurd hbad (by omega)
                    obtain ⟨jp, jo, jx, jy, jt, jd, hd0, hdz, -⟩ := id hz3
                    have hdj : (jp 6).toInt = (fl i).toInt + 1 := by rw [hdz, ti_add (rfl : (fl i).toInt = _) (show (1 : Int32).toInt = 1 by decide) (by omega) (by omega)]
                    refine v_aload C 5 dX8_line_117 rfl ?_
                    refine v_geti (v := jp 6) C (9 + 6 * i) dX8_line_119 fX8_181 (by omega) hd0 rfl rfl ?_
                    refine v_iconst (v := 1) C dX8_line_122 (by decide) ?_
                    refine v_isub C dX8_line_123 ?_
                    refine v_top (fun x95 ex95 => ?_)
                    have hx95 : x95.toInt = (((fl i).toInt + 1) - 1) := by rw [ex95]; exact ti_sub hdj (show (1 : Int32).toInt = 1 by decide) (by omega) (by omega)
                    exact v_ret C dX8_line_124 rfl rfl (Or.inr (Or.inr ⟨i, hi, hpi, (by have hq := (show (8 : Int32).toInt = 8 by decide); unfold okLn; omega), by omega, (by rw [hx95]; omega), hz3, hz4⟩))
                  · refine v_bipush (v := (-2)) C dX8_line_105 (by decide) ?_
                    exact v_ret C dX8_line_107 rfl rfl (Or.inr (Or.inl ⟨i, hi, hpi, (by have hq := (show (8 : Int32).toInt = 8 by decide); unfold okLn; omega), by omega, by decide, rfl⟩))
                · refine v_iconst (v := (-1)) C dX8_line_93 (by decide) ?_
                  exact v_ret C dX8_line_94 rfl rfl (Or.inl ⟨(by have hq := (show (8 : Int32).toInt = 8 by decide); unfold okLn; omega), by decide, rfl⟩)
            · refine v_iconst (v := (-1)) C dX8_line_37 (by decide) ?_
              exact v_ret C dX8_line_38 rfl rfl (Or.inl ⟨(by have hq := (show (8 : Int32).toInt = 8 by decide); unfold okLn; omega), by decide, rfl⟩)
          · obtain rfl : op = 9 := ti_ext (by rw [q6]; decide)
            refine v_iload C 4 dX8_line_27 rfl ?_
            refine v_gstY C dX8_line_29 (in_t3 (List.mem_of_getElem? (i := 81) rfl) rfl) ?_
            refine v_iload_n C 2 dX8_line_32 rfl rfl ?_
            refine v_lstY (v := 0) C dX8_line_33 (ti_in (show (9 : Int32).toInt = 9 by decide) (by omega) (by omega)) (by decide) ?_
            refine b_icmp_le C 39 dX8_line_34 (by decide) (rfl : Int32.toInt y = _) (show (0 : Int32).toInt = 0 by decide) (fun c96 => ?_) (fun c96 => ?_)
            · refine v_iload_n C 2 dX8_line_39 rfl rfl ?_
              refine v_iconst (v := 1) C dX8_line_40 (by decide) ?_
              refine b_icmp_eq C 49 dX8_line_41 (by decide) (show (9 : Int32).toInt = 9 by decide) (show (1 : Int32).toInt = 1 by decide) (fun c97 => absurd c97 (by decide)) (fun c97 => ?_)
              refine v_iload_n C 2 dX8_line_44 rfl rfl ?_
              refine v_iconst (v := 4) C dX8_line_45 (by decide) ?_
              refine b_icmp_ne C 53 dX8_line_46 (by decide) (show (9 : Int32).toInt = 9 by decide) (show (4 : Int32).toInt = 4 by decide) (fun c98 => ?_) (fun c98 => absurd c98 (by decide))
              refine v_iconst (v := 0) C dX8_line_53 (by decide) ?_
              refine v_istore (lv' := [(0, .ref (ad 0)), (1, .int p), (2, .int 9), (3, .int x), (4, .int y), (5, .ref (ad (9 + 6 * i))), (6, .int 0)]) C [1, 2, 3, 4, 5, 6, 0] dX8_line_54 (by decide) rfl ?_
              refine v_iload_n C 3 dX8_line_56 rfl rfl ?_
              refine v_gstL C dX8_line_57 (in_t3 (List.mem_of_getElem? (i := 83) rfl) rfl) ?_
              refine v_iload_n C 2 dX8_line_60 rfl rfl ?_
              refine v_lstL (v := 0) C dX8_line_61 (ti_in (show (9 : Int32).toInt = 9 by decide) (by omega) (by omega)) (by decide) ?_
              refine b_icmp_lt C 93 dX8_line_62 (by decide) (rfl : Int32.toInt x = _) (show (0 : Int32).toInt = 0 by decide) (fun c99 => ?_) (fun c99 => ?_)
              · refine v_iconst (v := (-1)) C dX8_line_93 (by decide) ?_
                exact v_ret C dX8_line_94 rfl rfl (Or.inl ⟨(by have hq := (show (9 : Int32).toInt = 9 by decide); unfold okLn; omega), by decide, rfl⟩)
              · refine v_iload C 6 dX8_line_65 rfl ?_
                refine b_if_eq C 84 dX8_line_67 (by decide) (show (0 : Int32).toInt = 0 by decide) (fun c100 => ?_) (fun c100 => absurd c100 (by decide))
                refine v_iload_n C 3 dX8_line_84 rfl rfl ?_
                refine v_gstX C dX8_line_85 (in_t3 (List.mem_of_getElem? (i := 85) rfl) rfl) ?_
                refine v_iload_n C 2 dX8_line_88 rfl rfl ?_
                refine v_lstX (v := 0) C dX8_line_89 (ti_in (show (9 : Int32).toInt = 9 by decide) (by omega) (by omega)) (by decide) ?_
                refine b_icmp_le C 95 dX8_line_90 (by decide) (rfl : Int32.toInt x = _) (show (0 : Int32).toInt = 0 by decide) (fun c101 => ?_) (fun c101 => ?_)
                · refine v_aload C 5 dX8_line_95 rfl ?_
                  refine v_geti (v := ip 6) C (9 + 6 * i) dX8_line_97 fX8_181 (by omega) hc0 rfl rfl ?_
                  refine v_bipush (v := 10) C dX8_line_100 (by decide) ?_
                  refine b_icmp_lt C 108 dX8_line_102 (by decide) hsi (show (10 : Int32).toInt = 10 by decide) (fun c102 => ?_) (fun c102 => ?_)
                  · refine v_aload C 5 dX8_line_108 rfl ?_
                    refine v_iload_n C 2 dX8_line_110 rfl rfl ?_
                    refine v_iload_n C 3 dX8_line_111 rfl rfl ?_
                    refine v_iload C 4 dX8_line_112 rfl ?_
                    refine v_cVv C dX8_line_114 lX8_194 mX5_append (9 + 6 * i) (by omega) hc0 (by decide) rfl (f_append l G n ad _ (9 + 6 * i) (by omega) (hPg i hi) hbi.1 hbi.2 9 x y (by decide)) ⟨by decide, by decide⟩ rfl (Nat.le_of_ble_eq_true rfl) ⟨Nat.zero_le _, Nat.zero_le _⟩ (fun E103 hq104 => ?_)
                    rcases hq104 with ⟨hbad, -⟩ | ⟨hz1, hz3, hz4⟩
                    · exact absurd hbad (by omega)
                    obtain ⟨jp, jo, jx, jy, jt, jd, hd0, hdz, -⟩ := id hz3
                    have hdj : (jp 6).toInt = (fl i).toInt + 1 := by rw [hdz, ti_add (rfl : (fl i).toInt = _) (show (1 : Int32).toInt = 1 by decide) (by omega) (by omega)]
                    refine v_aload C 5 dX8_line_117 rfl ?_
                    refine v_geti (v := jp 6) C (9 + 6 * i) dX8_line_119 fX8_181 (by omega) hd0 rfl rfl ?_
                    refine v_iconst (v := 1) C dX8_line_122 (by decide) ?_
                    refine v_isub C dX8_line_123 ?_
                    refine v_top (fun x105 ex105 => ?_)
                    have hx105 : x105.toInt = (((fl i).toInt + 1) - 1) := by rw [ex105]; exact ti_sub hdj (show (1 : Int32).toInt = 1 by decide) (by omega) (by omega)
                    exact v_ret C dX8_line_124 rfl rfl (Or.inr (Or.inr ⟨i, hi, hpi, (by have hq := (show (9 : Int32).toInt = 9 by decide); unfold okLn; omega), by omega, (by rw [hx105]; omega), hz3, hz4⟩))
                  · refine v_bipush (v := (-2)) C dX8_line_105 (by decide) ?_
                    exact v_ret C dX8_line_107 rfl rfl (Or.inr (Or.inl ⟨i, hi, hpi, (by have hq := (show (9 : Int32).toInt = 9 by decide); unfold okLn; omega), by omega, by decide, rfl⟩))
                · refine v_iconst (v := (-1)) C dX8_line_93 (by decide) ?_
                  exact v_ret C dX8_line_94 rfl rfl (Or.inl ⟨(by have hq := (show (9 : Int32).toInt = 9 by decide); unfold okLn; omega), by decide, rfl⟩)
            · refine v_iconst (v := (-1)) C dX8_line_37 (by decide) ?_
              exact v_ret C dX8_line_38 rfl rfl (Or.inl ⟨(by have hq := (show (9 : Int32).toInt = 9 by decide); unfold okLn; omega), by decide, rfl⟩)
          · obtain rfl : op = 10 := ti_ext (by rw [q6]; decide)
            refine v_iload C 4 dX8_line_27 rfl ?_
            refine v_gstY C dX8_line_29 (in_t3 (List.mem_of_getElem? (i := 81) rfl) rfl) ?_
            refine v_iload_n C 2 dX8_line_32 rfl rfl ?_
            refine v_lstY (v := 0) C dX8_line_33 (ti_in (show (10 : Int32).toInt = 10 by decide) (by omega) (by omega)) (by decide) ?_
            refine b_icmp_le C 39 dX8_line_34 (by decide) (rfl : Int32.toInt y = _) (show (0 : Int32).toInt = 0 by decide) (fun c106 => ?_) (fun c106 => ?_)
            · refine v_iload_n C 2 dX8_line_39 rfl rfl ?_
              refine v_iconst (v := 1) C dX8_line_40 (by decide) ?_
              refine b_icmp_eq C 49 dX8_line_41 (by decide) (show (10 : Int32).toInt = 10 by decide) (show (1 : Int32).toInt = 1 by decide) (fun c107 => absurd c107 (by decide)) (fun c107 => ?_)
              refine v_iload_n C 2 dX8_line_44 rfl rfl ?_
              refine v_iconst (v := 4) C dX8_line_45 (by decide) ?_
              refine b_icmp_ne C 53 dX8_line_46 (by decide) (show (10 : Int32).toInt = 10 by decide) (show (4 : Int32).toInt = 4 by decide) (fun c108 => ?_) (fun c108 => absurd c108 (by decide))
              refine v_iconst (v := 0) C dX8_line_53 (by decide) ?_
              refine v_istore (lv' := [(0, .ref (ad 0)), (1, .int p), (2, .int 10), (3, .int x), (4, .int y), (5, .ref (ad (9 + 6 * i))), (6, .int 0)]) C [1, 2, 3, 4, 5, 6, 0] dX8_line_54 (by decide) rfl ?_
              refine v_iload_n C 3 dX8_line_56 rfl rfl ?_
              refine v_gstL C dX8_line_57 (in_t3 (List.mem_of_getElem? (i := 83) rfl) rfl) ?_
              refine v_iload_n C 2 dX8_line_60 rfl rfl ?_
              refine v_lstL (v := 0) C dX8_line_61 (ti_in (show (10 : Int32).toInt = 10 by decide) (by omega) (by omega)) (by decide) ?_
              refine b_icmp_lt C 93 dX8_line_62 (by decide) (rfl : Int32.toInt x = _) (show (0 : Int32).toInt = 0 by decide) (fun c109 => ?_) (fun c109 => ?_)
              · refine v_iconst (v := (-1)) C dX8_line_93 (by decide) ?_
                exact v_ret C dX8_line_94 rfl rfl (Or.inl ⟨(by have hq := (show (10 : Int32).toInt = 10 by decide); unfold okLn; omega), by decide, rfl⟩)
              · refine v_iload C 6 dX8_line_65 rfl ?_
                refine b_if_eq C 84 dX8_line_67 (by decide) (show (0 : Int32).toInt = 0 by decide) (fun c110 => ?_) (fun c110 => absurd c110 (by decide))
                refine v_iload_n C 3 dX8_line_84 rfl rfl ?_
                refine v_gstX C dX8_line_85 (in_t3 (List.mem_of_getElem? (i := 85) rfl) rfl) ?_
                refine v_iload_n C 2 dX8_line_88 rfl rfl ?_
                refine v_lstX (v := 0) C dX8_line_89 (ti_in (show (10 : Int32).toInt = 10 by decide) (by omega) (by omega)) (by decide) ?_
                refine b_icmp_le C 95 dX8_line_90 (by decide) (rfl : Int32.toInt x = _) (show (0 : Int32).toInt = 0 by decide) (fun c111 => ?_) (fun c111 => ?_)
                · refine v_aload C 5 dX8_line_95 rfl ?_
                  refine v_geti (v := ip 6) C (9 + 6 * i) dX8_line_97 fX8_181 (by omega) hc0 rfl rfl ?_
                  refine v_bipush (v := 10) C dX8_line_100 (by decide) ?_
                  refine b_icmp_lt C 108 dX8_line_102 (by decide) hsi (show (10 : Int32).toInt = 10 by decide) (fun c112 => ?_) (fun c112 => ?_)
                  · refine v_aload C 5 dX8_line_108 rfl ?_
                    refine v_iload_n C 2 dX8_line_110 rfl rfl ?_
                    refine v_iload_n C 3 dX8_line_111 rfl rfl ?_
                    refine v_iload C 4 dX8_line_112 rfl ?_
                    refine v_cVv C dX8_line_114 lX8_194 mX5_append (9 + 6 * i) (by omega) hc0 (by decide) rfl (f_append l G n ad _ (9 + 6 * i) (by omega) (hPg i hi) hbi.1 hbi.2 10 x y (by decide)) ⟨by decide, by decide⟩ rfl (Nat.le_of_ble_eq_true rfl) ⟨Nat.zero_le _, Nat.zero_le _⟩ (fun E113 hq114 => ?_)
                    rcases hq114 with ⟨hbad, -⟩ | ⟨hz1, hz3, hz4⟩
                    · exact absurd hbad (by omega)
                    obtain ⟨jp, jo, jx, jy, jt, jd, hd0, hdz, -⟩ := id hz3
                    have hdj : (jp 6).toInt = (fl i).toInt + 1 := by rw [hdz, ti_add (rfl : (fl i).toInt = _) (show (1 : Int32).toInt = 1 by decide) (by omega) (by omega)]
                    refine v_aload C 5 dX8_line_117 rfl ?_
                    refine v_geti (v := jp 6) C (9 + 6 * i) dX8_line_119 fX8_181 (by omega) hd0 rfl rfl ?_
                    refine v_iconst (v := 1) C dX8_line_122 (by decide) ?_
                    refine v_isub C dX8_line_123 ?_
                    refine v_top (fun x115 ex115 => ?_)
                    have hx115 : x115.toInt = (((fl i).toInt + 1) - 1) := by rw [ex115]; exact ti_sub hdj (show (1 : Int32).toInt = 1 by decide) (by omega) (by omega)
                    exact v_ret C dX8_line_124 rfl rfl (Or.inr (Or.inr ⟨i, hi, hpi, (by have hq := (show (10 : Int32).toInt = 10 by decide); unfold okLn; omega), by omega, (by rw [hx115]; omega), hz3, hz4⟩))
                  · refine v_bipush (v := (-2)) C dX8_line_105 (by decide) ?_
                    exact v_ret C dX8_line_107 rfl rfl (Or.inr (Or.inl ⟨i, hi, hpi, (by have hq := (show (10 : Int32).toInt = 10 by decide); unfold okLn; omega), by omega, by decide, rfl⟩))
                · refine v_iconst (v := (-1)) C dX8_line_93 (by decide) ?_
                  exact v_ret C dX8_line_94 rfl rfl (Or.inl ⟨(by have hq := (show (10 : Int32).toInt = 10 by decide); unfold okLn; omega), by decide, rfl⟩)
            · refine v_iconst (v := (-1)) C dX8_line_37 (by decide) ?_
              exact v_ret C dX8_line_38 rfl rfl (Or.inl ⟨(by have hq := (show (10 : Int32).toInt = 10 by decide); unfold okLn; omega), by decide, rfl⟩)
          · obtain rfl : op = 11 := ti_ext (by rw [q6]; decide)
            refine v_iload C 4 dX8_line_27 rfl ?_
            refine v_gstY C dX8_line_29 (in_t3 (List.mem_of_getElem? (i := 81) rfl) rfl) ?_
            refine v_iload_n C 2 dX8_line_32 rfl rfl ?_
            refine v_lstY (v := 0) C dX8_line_33 (ti_in (show (11 : Int32).toInt = 11 by decide) (by omega) (by omega)) (by decide) ?_
            refine b_icmp_le C 39 dX8_line_34 (by decide) (rfl : Int32.toInt y = _) (show (0 : Int32).toInt = 0 by decide) (fun c116 => ?_) (fun c116 => ?_)
            · refine v_iload_n C 2 dX8_line_39 rfl rfl ?_
              refine v_iconst (v := 1) C dX8_line_40 (by decide) ?_
              refine b_icmp_eq C 49 dX8_line_41 (by decide) (show (11 : Int32).toInt = 11 by decide) (show (1 : Int32).toInt = 1 by decide) (fun c117 => absurd c117 (by decide)) (fun c117 => ?_)
              refine v_iload_n C 2 dX8_line_44 rfl rfl ?_
              refine v_iconst (v := 4) C dX8_line_45 (by decide) ?_
              refine b_icmp_ne C 53 dX8_line_46 (by decide) (show (11 : Int32).toInt = 11 by decide) (show (4 : Int32).toInt = 4 by decide) (fun c118 => ?_) (fun c118 => absurd c118 (by decide))
              refine v_iconst (v := 0) C dX8_line_53 (by decide) ?_
              refine v_istore (lv' := [(0, .ref (ad 0)), (1, .int p), (2, .int 11), (3, .int x), (4, .int y), (5, .ref (ad (9 + 6 * i))), (6, .int 0)]) C [1, 2, 3, 4, 5, 6, 0] dX8_line_54 (by decide) rfl ?_
              refine v_iload_n C 3 dX8_line_56 rfl rfl ?_
              refine v_gstL C dX8_line_57 (in_t3 (List.mem_of_getElem? (i := 83) rfl) rfl) ?_
              refine v_iload_n C 2 dX8_line_60 rfl rfl ?_
              refine v_lstL (v := 0) C dX8_line_61 (ti_in (show (11 : Int32).toInt = 11 by decide) (by omega) (by omega)) (by decide) ?_
              refine b_icmp_lt C 93 dX8_line_62 (by decide) (rfl : Int32.toInt x = _) (show (0 : Int32).toInt = 0 by decide) (fun c119 => ?_) (fun c119 => ?_)
              · refine v_iconst (v := (-1)) C dX8_line_93 (by decide) ?_
                exact v_ret C dX8_line_94 rfl rfl (Or.inl ⟨(by have hq := (show (11 : Int32).toInt = 11 by decide); unfold okLn; omega), by decide, rfl⟩)
              · refine v_iload C 6 dX8_line_65 rfl ?_
                refine b_if_eq C 84 dX8_line_67 (by decide) (show (0 : Int32).toInt = 0 by decide) (fun c120 => ?_) (fun c120 => absurd c120 (by decide))
                refine v_iload_n C 3 dX8_line_84 rfl rfl ?_
                refine v_gstX C dX8_line_85 (in_t3 (List.mem_of_getElem? (i := 85) rfl) rfl) ?_
                refine v_iload_n C 2 dX8_line_88 rfl rfl ?_
                refine v_lstX (v := 0) C dX8_line_89 (ti_in (show (11 : Int32).toInt = 11 by decide) (by omega) (by omega)) (by decide) ?_
                refine b_icmp_le C 95 dX8_line_90 (by decide) (rfl : Int32.toInt x = _) (show (0 : Int32).toInt = 0 by decide) (fun c121 => ?_) (fun c121 => ?_)
                · refine v_aload C 5 dX8_line_95 rfl ?_
                  refine v_geti (v := ip 6) C (9 + 6 * i) dX8_line_97 fX8_181 (by omega) hc0 rfl rfl ?_
                  refine v_bipush (v := 10) C dX8_line_100 (by decide) ?_
                  refine b_icmp_lt C 108 dX8_line_102 (by decide) hsi (show (10 : Int32).toInt = 10 by decide) (fun c122 => ?_) (fun c122 => ?_)
                  · refine v_aload C 5 dX8_line_108 rfl ?_
                    refine v_iload_n C 2 dX8_line_110 rfl rfl ?_
                    refine v_iload_n C 3 dX8_line_111 rfl rfl ?_
                    refine v_iload C 4 dX8_line_112 rfl ?_
                    refine v_cVv C dX8_line_114 lX8_194 mX5_append (9 + 6 * i) (by omega) hc0 (by decide) rfl (f_append l G n ad _ (9 + 6 * i) (by omega) (hPg i hi) hbi.1 hbi.2 11 x y (by decide)) ⟨by decide, by decide⟩ rfl (Nat.le_of_ble_eq_true rfl) ⟨Nat.zero_le _, Nat.zero_le _⟩ (fun E123 hq124 => ?_)
                    rcases hq124 with ⟨hbad, -⟩ | ⟨hz1, hz3, hz4⟩
                    · exact absurd hbad (by omega)
                    obtain ⟨jp, jo, jx, jy, jt, jd, hd0, hdz, -⟩ := id hz3
                    have hdj : (jp 6).toInt = (fl i).toInt + 1 := by rw [hdz, ti_add (rfl : (fl i).toInt = _) (show (1 : Int32).toInt = 1 by decide) (by omega) (by omega)]
                    refine v_aload C 5 dX8_line_117 rfl ?_
                    refine v_geti (v := jp 6) C (9 + 6 * i) dX8_line_119 fX8_181 (by omega) hd0 rfl rfl ?_
                    refine v_iconst (v := 1) C dX8_line_122 (by decide) ?_
                    refine v_isub C dX8_line_123 ?_
                    refine v_top (fun x125 ex125 => ?_)
                    have hx125 : x125.toInt = (((fl i).toInt + 1) - 1) := by rw [ex125]; exact ti_sub hdj (show (1 : Int32).toInt = 1 by decide) (by omega) (by omega)
                    exact v_ret C dX8_line_124 rfl rfl (Or.inr (Or.inr ⟨i, hi, hpi, (by have hq := (show (11 : Int32).toInt = 11 by decide); unfold okLn; omega), by omega, (by rw [hx125]; omega), hz3, hz4⟩))
                  · refine v_bipush (v := (-2)) C dX8_line_105 (by decide) ?_
                    exact v_ret C dX8_line_107 rfl rfl (Or.inr (Or.inl ⟨i, hi, hpi, (by have hq := (show (11 : Int32).toInt = 11 by decide); unfold okLn; omega), by omega, by decide, rfl⟩))
                · refine v_iconst (v := (-1)) C dX8_line_93 (by decide) ?_
                  exact v_ret C dX8_line_94 rfl rfl (Or.inl ⟨(by have hq := (show (11 : Int32).toInt = 11 by decide); unfold okLn; omega), by decide, rfl⟩)
            · refine v_iconst (v := (-1)) C dX8_line_37 (by decide) ?_
              exact v_ret C dX8_line_38 rfl rfl (Or.inl ⟨(by have hq := (show (11 : Int32).toInt = 11 by decide); unfold okLn; omega), by decide, rfl⟩)

set_option maxRecDepth 20000 in
theorem h_mix (l : Launch) (G : Gl) (n : Nat) (ad : Nat → Nat) (E : Nat → va_E) (hN : 68 ≤ n) {io iz : Nat → Int32} (hE0 : E 0 = ob 8 (rfs ad [1, 6, 8, 48, 45, 51]) io) (hE6 : E 6 = ob 7 (rfs ad [7]) iz) {fp : Nat → Option Nat} (hE8 : E 8 = aQ G 4 6 fp) (hfp : ∀ i, i < 6 → fp i = some (ad (9 + 6 * i))) {fl : Nat → Int32} {fo fx fy : Nat → Nat → Int32} (hPg : ∀ i, i < 6 → PgX G ad (9 + 6 * i) E (fl i) (fo i) (fx i) (fy i)) (hbl : ∀ i, 0 ≤ (fl i).toInt ∧ (fl i).toInt ≤ 10) (p : Int32)  : CtI l G yX8_mix cX8_mix 3 .int 1 21 n ad E [.ref (ad 0), .int p] (fun r E' => ((¬ (0 ≤ p.toInt ∧ p.toInt < 6) ∧ r.toInt = -1) ∨ (∃ i : Nat, i < 6 ∧ p.toInt = (i : Int) ∧ r.toInt = MXf (fo i) (fl i).toInt.toNat)) ∧ E = E') := by
  refine CtI.of (by decide) (Nat.le_of_ble_eq_true rfl) (fun X A C => ?_)
  refine v_sub (lv' := [(0, .ref (ad 0)), (1, .int p)]) [0, 1] rfl ?_
  refine v_aload_n C 0 dX8_mix_0 rfl rfl ?_
  refine v_iload_n C 1 dX8_mix_1 rfl rfl ?_
  refine v_cVr C dX8_mix_2 lX8_177 mX8_programAt 0 (by omega) hE0 (by decide) rfl (g_programAt l G n ad _ (by omega) hE0 hE8 hfp p) ⟨by decide, by decide⟩ rfl (Nat.le_of_ble_eq_true rfl) ⟨Nat.zero_le _, Nat.zero_le _⟩ (fun r1 hp2 => ?_)
  rcases hp2 with ⟨hno, rfl⟩ | ⟨i, hi, hpi, rfl⟩
  · refine v_astore_nN (lv' := [(0, .ref (ad 0)), (1, .int p), (2, .null)]) C [1, 2, 0] dX8_mix_5 rfl (by decide) rfl ?_
    refine v_aload_nN C 2 dX8_mix_6 rfl rfl ?_
    refine v_ifnonnullN C dX8_mix_7 ?_
    refine v_iconst (v := (-1)) C dX8_mix_10 (by decide) ?_
    exact v_ret C dX8_mix_11 rfl rfl ⟨Or.inl ⟨by omega, by decide⟩, rfl⟩
  · obtain ⟨ip, po, px, py, tp, kd, hc0, hsz, -, -, -, -, -, -, -, -, -, hft⟩ := id (hPg i hi)
    have hbi := hbl i
    have hsi : (ip 6).toInt = (fl i).toInt := by rw [hsz]
    refine v_astore_n (lv' := [(0, .ref (ad 0)), (1, .int p), (2, .ref (ad (9 + 6 * i)))]) C [1, 2, 0] dX8_mix_5 rfl (by decide) rfl ?_
    refine v_aload_n C 2 dX8_mix_6 rfl rfl ?_
    refine v_ifnonnull C 12 dX8_mix_7 (by decide) ?_
    refine v_aload_n C 2 dX8_mix_12 rfl rfl ?_
    refine v_geti (v := ip 7) C (9 + 6 * i) dX8_mix_13 fX8_198 (by omega) hc0 rfl rfl ?_
    refine v_iconst (v := (-1)) C dX8_mix_16 (by decide) ?_
    refine b_icmp_ne C 25 dX8_mix_17 (by decide) hft.1 (show ((-1) : Int32).toInt = (-1) by decide) (fun c3 => ?_) (fun c3 => ?_)
    · refine v_aload_n C 2 dX8_mix_25 rfl rfl ?_
      refine v_geti (v := ip 7) C (9 + 6 * i) dX8_mix_26 fX8_198 (by omega) hc0 rfl rfl ?_
      exact v_ret C dX8_mix_29 rfl rfl ⟨Or.inr ⟨i, hi, hpi, (by unfold MXf; rw [if_neg (by omega), hft.1])⟩, rfl⟩
    · refine v_bipush (v := (-6)) C dX8_mix_20 (by decide) ?_
      refine v_goto C 29 dX8_mix_22 (by decide) ?_
      exact v_ret C dX8_mix_29 rfl rfl ⟨Or.inr ⟨i, hi, hpi, (by rw [show (-6 : Int32).toInt = -6 by decide]; exact (MX_iff.mpr (by omega)).symm)⟩, rfl⟩

set_option maxRecDepth 20000 in
theorem h_kind (l : Launch) (G : Gl) (n : Nat) (ad : Nat → Nat) (E : Nat → va_E) (hN : 68 ≤ n) {io iz : Nat → Int32} (hE0 : E 0 = ob 8 (rfs ad [1, 6, 8, 48, 45, 51]) io) (hE6 : E 6 = ob 7 (rfs ad [7]) iz) {fp : Nat → Option Nat} (hE8 : E 8 = aQ G 4 6 fp) (hfp : ∀ i, i < 6 → fp i = some (ad (9 + 6 * i))) {fl : Nat → Int32} {fo fx fy : Nat → Nat → Int32} (hPg : ∀ i, i < 6 → PgX G ad (9 + 6 * i) E (fl i) (fo i) (fx i) (fy i)) (hbl : ∀ i, 0 ≤ (fl i).toInt ∧ (fl i).toInt ≤ 10) (p : Int32)  : CtI l G yX8_kind cX8_kind 3 .int 1 21 n ad E [.ref (ad 0), .int p] (fun r E' => ((¬ (0 ≤ p.toInt ∧ p.toInt < 6) ∧ r.toInt = -1) ∨ (∃ i : Nat, i < 6 ∧ p.toInt = (i : Int) ∧ r.toInt = KDr (fo i) (fl i).toInt.toNat)) ∧ E = E') := by
  refine CtI.of (by decide) (Nat.le_of_ble_eq_true rfl) (fun X A C => ?_)
  refine v_sub (lv' := [(0, .ref (ad 0)), (1, .int p)]) [0, 1] rfl ?_
  refine v_aload_n C 0 dX8_kind_0 rfl rfl ?_
  refine v_iload_n C 1 dX8_kind_1 rfl rfl ?_
  refine v_cVr C dX8_kind_2 lX8_177 mX8_programAt 0 (by omega) hE0 (by decide) rfl (g_programAt l G n ad _ (by omega) hE0 hE8 hfp p) ⟨by decide, by decide⟩ rfl (Nat.le_of_ble_eq_true rfl) ⟨Nat.zero_le _, Nat.zero_le _⟩ (fun r1 hp2 => ?_)
  rcases hp2 with ⟨hno, rfl⟩ | ⟨i, hi, hpi, rfl⟩
  · refine v_astore_nN (lv' := [(0, .ref (ad 0)), (1, .int p), (2, .null)]) C [1, 2, 0] dX8_kind_5 rfl (by decide) rfl ?_
    refine v_aload_nN C 2 dX8_kind_6 rfl rfl ?_
    refine v_ifnonnullN C dX8_kind_7 ?_
    refine v_iconst (v := (-1)) C dX8_kind_10 (by decide) ?_
    exact v_ret C dX8_kind_11 rfl rfl ⟨Or.inl ⟨by omega, by decide⟩, rfl⟩
  · obtain ⟨ip, po, px, py, tp, kd, hc0, hsz, -, -, -, -, -, -, -, -, -, hft⟩ := id (hPg i hi)
    have hbi := hbl i
    have hsi : (ip 6).toInt = (fl i).toInt := by rw [hsz]
    refine v_astore_n (lv' := [(0, .ref (ad 0)), (1, .int p), (2, .ref (ad (9 + 6 * i)))]) C [1, 2, 0] dX8_kind_5 rfl (by decide) rfl ?_
    refine v_aload_n C 2 dX8_kind_6 rfl rfl ?_
    refine v_ifnonnull C 12 dX8_kind_7 (by decide) ?_
    refine v_aload_n C 2 dX8_kind_12 rfl rfl ?_
    refine v_geti (v := ip 7) C (9 + 6 * i) dX8_kind_13 fX8_198 (by omega) hc0 rfl rfl ?_
    refine v_iconst (v := (-1)) C dX8_kind_16 (by decide) ?_
    refine b_icmp_ne C 27 dX8_kind_17 (by decide) hft.1 (show ((-1) : Int32).toInt = (-1) by decide) (fun c3 => ?_) (fun c3 => ?_)
    · refine v_bipush (v := (-4)) C dX8_kind_27 (by decide) ?_
      exact v_ret C dX8_kind_29 rfl rfl ⟨Or.inr ⟨i, hi, hpi, (by rw [show (-4 : Int32).toInt = -4 by decide]; exact (KD_no (by omega)).symm)⟩, rfl⟩
    · refine v_aload_n C 2 dX8_kind_20 rfl rfl ?_
      refine v_geti (v := ip 8) C (9 + 6 * i) dX8_kind_21 fX8_201 (by omega) hc0 rfl rfl ?_
      refine v_goto C 29 dX8_kind_24 (by decide) ?_
      exact v_ret C dX8_kind_29 rfl rfl ⟨Or.inr ⟨i, hi, hpi, (by obtain ⟨K, hK⟩ := MIS_whole (ops := fo i) (n := (fl i).toInt.toNat) (by omega); rw [KD_of hK, hft.2.1 K hK])⟩, rfl⟩

theorem KD_congr {f g : Nat → Int32} {n : Nat} (h : ∀ j, j < n → f j = g j) : KDr f n = KDr g n := by
  unfold KDr
  rw [RS_congr h n (Nat.le_refl n)]
set_option maxRecDepth 20000 in
theorem x_mix (l : Launch) (G : Gl) (ad : Nat → Nat) {n : Nat} {ic md : Nat → Int32} {bd : Nat → Int × Int} {E0 E : Nat → va_E} (hJ : JM G ad n ic md bd PT E0 E) {gop gx gy fl : Nat → Int32} (hgo : E0 85 = aI G 60 gop) (hgx : E0 86 = aI G 60 gx) (hgy : E0 87 = aI G 60 gy) (hgl : E0 88 = aI G 6 fl) (hbl : ∀ k, 0 ≤ (fl k).toInt ∧ (fl k).toInt ≤ 10) (hLX : LXg gop gx) (hOP : OPg gop) (hf32 : ((0 : Int) ≤ (bd 32).1 ∧ (bd 32).2 ≤ 10) ∧ ((bd 32).1 ≤ 0 ∧ 10 ≤ (bd 32).2)) (hf35 : ((0 : Int) ≤ (bd 35).1 ∧ (bd 35).2 ≤ 8) ∧ ((bd 35).1 ≤ 0 ∧ 8 ≤ (bd 35).2)) (p : Int32) : CtI l G yX9_mix cX9_mix 2 .int 4 86 (n) ad E [.ref (ad 68), .int p] (fun r E' => r.toInt = MIr fl gop p ∧ JM G ad n ic md bd PT E0 E') := by
  refine CtI.of (by decide) (Nat.le_of_ble_eq_true rfl) (fun X A C => ?_)
  refine v_sub (lv' := [(0, .ref (ad 68)), (1, .int p)]) [0, 1] rfl ?_
  have hn := hJ.hn
  have hz16 := hJ.2.2.2.2
  refine v_iload_n C 1 dX9_mix_0 rfl rfl ?_
  refine v_cSp C dX9_mix_1 lX9_194 mX9_isProgram (t_X9_isProgram l G ad hJ.self p) ⟨by decide, by decide⟩ rfl (Nat.le_of_ble_eq_true rfl) ⟨Nat.zero_le _, Nat.zero_le _⟩ (fun r1 hp2 => ?_)
  rcases hp2 with ⟨rfl, hp2⟩ | ⟨rfl, hp2⟩
  · refine b_if_ne C 9 dX9_mix_4 (by decide) (show (1 : Int32).toInt = 1 by decide) (fun c3 => ?_) (fun c3 => absurd c3 (by decide))
    refine v_aload_n C 0 dX9_mix_9 rfl rfl ?_
    refine v_iload_n C 1 dX9_mix_10 rfl rfl ?_
    obtain ⟨im7, hM7, hb7⟩ := hJ.1
    have hq7 := hM7.b
    refine v_cVv C dX9_mix_11 lX9_219 mX9_take 68 (by omega) hM7.2.2.1 (by decide) rfl (t_X9_take l G ad hJ hgo hgx hgy hgl hbl p (show (0 : Int) ≤ Int32.toInt p ∧ Int32.toInt p ≤ 5 by omega)) ⟨by decide, by decide⟩ rfl (Nat.le_of_ble_eq_true rfl) ⟨Nat.zero_le _, Nat.zero_le _⟩ (fun E4 hT6 => ?_)
    obtain ⟨fo6, fx6, fy6, h896, h906, h916, hT6, hJ5⟩ := hT6
    have hbm6 := hbl (p.toInt).toNat
    have hox6 : OXm fo6 fx6 ((fl (p.toInt).toNat).toInt).toNat := fun j hj hq => by have q := hT6 j hj; rw [q.1] at hq; rw [q.2.1]; exact hLX _ (by omega) hq
    refine v_aload_n C 0 dX9_mix_14 rfl rfl ?_
    have hpo : ∀ j, j < ((fl (p.toInt).toNat).toInt).toNat → 0 ≤ (fo6 j).toInt ∧ (fo6 j).toInt ≤ 11 := fun j hj => by rw [(hT6 j hj).1]; exact hOP _ (by omega)
    have hcg : ∀ j, j < ((fl (p.toInt).toNat).toInt).toNat → fo6 j = gop (10 * (p.toInt).toNat + j) := fun j hj => (hT6 j hj).1
    obtain ⟨im13, hM13, hb13⟩ := hJ5.1
    have hq13 := hM13.b
    refine v_cVi C dX9_mix_15 lX9_222 mX9_mixOf 68 (by omega) hM13.2.2.1 (by decide) rfl (x_mixOf l G ad hJ5.self h896 (show ((fl (p.toInt).toNat).toInt).toNat ≤ 10 by omega) (show ((((fl (p.toInt).toNat).toInt).toNat : Nat) : Int) ≤ (fl (p.toInt).toNat).toInt ∧ (fl (p.toInt).toNat).toInt ≤ ((((fl (p.toInt).toNat).toInt).toNat : Nat) : Int) by omega) hpo) ⟨by decide, by decide⟩ rfl (Nat.le_of_ble_eq_true rfl) ⟨Nat.zero_le _, Nat.zero_le _⟩ (fun r8 E9 hp10 => ?_)
    obtain ⟨hrx, hkx, hJ11⟩ := hp10
    rcases Classical.em (r8.toInt = -6) with hp10 | hp10
    · have hJ12 := hJ5.trans (fun _ => PT_PR) hJ11
      have e14 := (hJ11.2.1.1 89 (by unfold PR; omega)).trans h896
      have e15 := (hJ11.2.1.1 90 (by unfold PR; omega)).trans h906
      have e16 := (hJ11.2.1.1 91 (by unfold PR; omega)).trans h916
      obtain rfl : r8 = (-6 : Int32) := ti_ext (hp10.trans (by decide))
      exact v_ret C dX9_mix_18 rfl rfl ⟨(by unfold MIr; rw [if_pos (by unfold okPg; omega), hrx]; unfold MXf; rw [MIS_congr hcg]), ((hJ12.outB (k := 35) (by decide) (show (bd 35).1 ≤ 0 by omega) (show 8 ≤ (bd 35).2 by omega)).outB (k := 32) (by decide) (show (bd 32).1 ≤ (fl (p.toInt).toNat).toInt by omega) (show (fl (p.toInt).toNat).toInt ≤ (bd 32).2 by omega))⟩
    · have hJ12 := hJ5.trans (fun _ => PT_PR) hJ11
      have e17 := (hJ11.2.1.1 89 (by unfold PR; omega)).trans h896
      have e18 := (hJ11.2.1.1 90 (by unfold PR; omega)).trans h906
      have e19 := (hJ11.2.1.1 91 (by unfold PR; omega)).trans h916
      exact v_ret C dX9_mix_18 rfl rfl ⟨(by unfold MIr; rw [if_pos (by unfold okPg; omega), hrx]; unfold MXf; rw [MIS_congr hcg]), ((hJ12.outB (k := 35) (by decide) (show (bd 35).1 ≤ 0 by omega) (show 8 ≤ (bd 35).2 by omega)).outB (k := 32) (by decide) (show (bd 32).1 ≤ (fl (p.toInt).toNat).toInt by omega) (show (fl (p.toInt).toNat).toInt ≤ (bd 32).2 by omega))⟩
  · refine b_if_ne C 9 dX9_mix_4 (by decide) (show (0 : Int32).toInt = 0 by decide) (fun c20 => absurd c20 (by decide)) (fun c20 => ?_)
    refine v_iconst (v := (-1)) C dX9_mix_7 (by decide) ?_
    exact v_ret C dX9_mix_8 rfl rfl ⟨(by rw [show (-1 : Int32).toInt = -1 by decide]; unfold MIr; rw [if_neg (by unfold okPg; omega)]), hJ⟩

set_option maxRecDepth 20000 in
theorem x_kind (l : Launch) (G : Gl) (ad : Nat → Nat) {n : Nat} {ic md : Nat → Int32} {bd : Nat → Int × Int} {E0 E : Nat → va_E} (hJ : JM G ad n ic md bd PT E0 E) {gop gx gy fl : Nat → Int32} (hgo : E0 85 = aI G 60 gop) (hgx : E0 86 = aI G 60 gx) (hgy : E0 87 = aI G 60 gy) (hgl : E0 88 = aI G 6 fl) (hbl : ∀ k, 0 ≤ (fl k).toInt ∧ (fl k).toInt ≤ 10) (hLX : LXg gop gx) (hOP : OPg gop) (hf32 : ((0 : Int) ≤ (bd 32).1 ∧ (bd 32).2 ≤ 10) ∧ ((bd 32).1 ≤ 0 ∧ 10 ≤ (bd 32).2)) (hf35 : ((0 : Int) ≤ (bd 35).1 ∧ (bd 35).2 ≤ 8) ∧ ((bd 35).1 ≤ 0 ∧ 8 ≤ (bd 35).2)) (p : Int32) : CtI l G yX9_kind cX9_kind 2 .int 4 86 (n) ad E [.ref (ad 68), .int p] (fun r E' => r.toInt = KIr fl gop p ∧ JM G ad n ic md bd PT E0 E') := by
  refine CtI.of (by decide) (Nat.le_of_ble_eq_true rfl) (fun X A C => ?_)
  refine v_sub (lv' := [(0, .ref (ad 68)), (1, .int p)]) [0, 1] rfl ?_
  have hn := hJ.hn
  have hz16 := hJ.2.2.2.2
  refine v_iload_n C 1 dX9_kind_0 rfl rfl ?_
  refine v_cSp C dX9_kind_1 lX9_194 mX9_isProgram (t_X9_isProgram l G ad hJ.self p) ⟨by decide, by decide⟩ rfl (Nat.le_of_ble_eq_true rfl) ⟨Nat.zero_le _, Nat.zero_le _⟩ (fun r1 hp2 => ?_)
  rcases hp2 with ⟨rfl, hp2⟩ | ⟨rfl, hp2⟩
  · refine b_if_ne C 9 dX9_kind_4 (by decide) (show (1 : Int32).toInt = 1 by decide) (fun c3 => ?_) (fun c3 => absurd c3 (by decide))
    refine v_aload_n C 0 dX9_kind_9 rfl rfl ?_
    refine v_iload_n C 1 dX9_kind_10 rfl rfl ?_
    obtain ⟨im7, hM7, hb7⟩ := hJ.1
    have hq7 := hM7.b
    refine v_cVv C dX9_kind_11 lX9_219 mX9_take 68 (by omega) hM7.2.2.1 (by decide) rfl (t_X9_take l G ad hJ hgo hgx hgy hgl hbl p (show (0 : Int) ≤ Int32.toInt p ∧ Int32.toInt p ≤ 5 by omega)) ⟨by decide, by decide⟩ rfl (Nat.le_of_ble_eq_true rfl) ⟨Nat.zero_le _, Nat.zero_le _⟩ (fun E4 hT6 => ?_)
    obtain ⟨fo6, fx6, fy6, h896, h906, h916, hT6, hJ5⟩ := hT6
    have hbm6 := hbl (p.toInt).toNat
    have hox6 : OXm fo6 fx6 ((fl (p.toInt).toNat).toInt).toNat := fun j hj hq => by have q := hT6 j hj; rw [q.1] at hq; rw [q.2.1]; exact hLX _ (by omega) hq
    refine v_aload_n C 0 dX9_kind_14 rfl rfl ?_
    have hpo : ∀ j, j < ((fl (p.toInt).toNat).toInt).toNat → 0 ≤ (fo6 j).toInt ∧ (fo6 j).toInt ≤ 11 := fun j hj => by rw [(hT6 j hj).1]; exact hOP _ (by omega)
    have hcg : ∀ j, j < ((fl (p.toInt).toNat).toInt).toNat → fo6 j = gop (10 * (p.toInt).toNat + j) := fun j hj => (hT6 j hj).1
    obtain ⟨im13, hM13, hb13⟩ := hJ5.1
    have hq13 := hM13.b
    refine v_cVi C dX9_kind_15 lX9_222 mX9_mixOf 68 (by omega) hM13.2.2.1 (by decide) rfl (x_mixOf l G ad hJ5.self h896 (show ((fl (p.toInt).toNat).toInt).toNat ≤ 10 by omega) (show ((((fl (p.toInt).toNat).toInt).toNat : Nat) : Int) ≤ (fl (p.toInt).toNat).toInt ∧ (fl (p.toInt).toNat).toInt ≤ ((((fl (p.toInt).toNat).toInt).toNat : Nat) : Int) by omega) hpo) ⟨by decide, by decide⟩ rfl (Nat.le_of_ble_eq_true rfl) ⟨Nat.zero_le _, Nat.zero_le _⟩ (fun r8 E9 hp10 => ?_)
    obtain ⟨hrx, hkx, hJ11⟩ := hp10
    rcases Classical.em (r8.toInt = -6) with hp10 | hp10
    · have hJ12 := hJ5.trans (fun _ => PT_PR) hJ11
      have e14 := (hJ11.2.1.1 89 (by unfold PR; omega)).trans h896
      have e15 := (hJ11.2.1.1 90 (by unfold PR; omega)).trans h906
      have e16 := (hJ11.2.1.1 91 (by unfold PR; omega)).trans h916
      obtain rfl : r8 = (-6 : Int32) := ti_ext (hp10.trans (by decide))
      refine v_bipush (v := (-6)) C dX9_kind_18 (by decide) ?_
      refine b_icmp_ne C 32 dX9_kind_20 (by decide) (show ((-6) : Int32).toInt = (-6) by decide) (show ((-6) : Int32).toInt = (-6) by decide) (fun c17 => absurd c17 (by decide)) (fun c17 => ?_)
      refine v_aload_n C 0 dX9_kind_23 rfl rfl ?_
      obtain ⟨im18, hM18, hb18⟩ := hJ12.1
      have hq18 := hM18.b
      refine v_getr C 68 dX9_kind_24 fX9_97 (by omega) hM18.2.2.1 rfl rfl ?_
      refine v_iconst (v := 0) C dX9_kind_27 (by decide) ?_
      obtain ⟨f20, hE20, hb20⟩ := hJ12.2.1.getA (b := 92) (by omega) rfl
      refine v_ald (v := f20 0) C 92 dX9_kind_28 (by omega) hE20 (ti_in (show (0 : Int32).toInt = 0 by decide) (by omega) (by omega)) (congrArg f20 (by decide)) ?_
      refine v_eq (y := f20 0) (rfl) ?_
      refine v_goto C 34 dX9_kind_29 (by decide) ?_
      exact v_ret C dX9_kind_34 rfl rfl ⟨(by unfold KIr; rw [if_pos (by unfold okPg; omega), ← KD_congr hcg]; obtain ⟨K, hK⟩ := MIS_whole (MX_iff.mp (hrx.symm.trans (by decide))); obtain ⟨K1, q1, q2⟩ := hkx K hK; rw [KD_of hK, ← q2, aI_inj (q1.symm.trans hE20)]), ((hJ12.outB (k := 35) (by decide) (show (bd 35).1 ≤ 0 by omega) (show 8 ≤ (bd 35).2 by omega)).outB (k := 32) (by decide) (show (bd 32).1 ≤ (fl (p.toInt).toNat).toInt by omega) (show (fl (p.toInt).toNat).toInt ≤ (bd 32).2 by omega))⟩
    · have hJ12 := hJ5.trans (fun _ => PT_PR) hJ11
      have e21 := (hJ11.2.1.1 89 (by unfold PR; omega)).trans h896
      have e22 := (hJ11.2.1.1 90 (by unfold PR; omega)).trans h906
      have e23 := (hJ11.2.1.1 91 (by unfold PR; omega)).trans h916
      refine v_bipush (v := (-6)) C dX9_kind_18 (by decide) ?_
      refine b_icmp_ne C 32 dX9_kind_20 (by decide) (rfl : Int32.toInt r8 = _) (show ((-6) : Int32).toInt = (-6) by decide) (fun c24 => ?_) (fun c24 => absurd (by have := c24; omega) hp10)
      refine v_bipush (v := (-4)) C dX9_kind_32 (by decide) ?_
      exact v_ret C dX9_kind_34 rfl rfl ⟨(by rw [show (-4 : Int32).toInt = -4 by decide]; unfold KIr; rw [if_pos (by unfold okPg; omega), ← KD_congr hcg]; exact (KD_no (fun q => hp10 ((hrx.trans (MX_iff.mpr q))))).symm), ((hJ12.outB (k := 35) (by decide) (show (bd 35).1 ≤ 0 by omega) (show 8 ≤ (bd 35).2 by omega)).outB (k := 32) (by decide) (show (bd 32).1 ≤ (fl (p.toInt).toNat).toInt by omega) (show (fl (p.toInt).toNat).toInt ≤ (bd 32).2 by omega))⟩
  · refine b_if_ne C 9 dX9_kind_4 (by decide) (show (0 : Int32).toInt = 0 by decide) (fun c25 => absurd c25 (by decide)) (fun c25 => ?_)
    refine v_iconst (v := (-1)) C dX9_kind_7 (by decide) ?_
    exact v_ret C dX9_kind_8 rfl rfl ⟨(by rw [show (-1 : Int32).toInt = -1 by decide]; unfold KIr; rw [if_neg (by unfold okPg; omega)]), hJ⟩

