set_option maxRecDepth 20000 in
theorem g_programAt (l : Launch) (G : Gl) (n : Nat) (ad : Nat → Nat) (E : Nat → va_E) (hN : 52 ≤ n) {io : Nat → Int32} (hE0 : E 0 = ob 8 (rfs ad [1, 6, 8, 48, 45, 51]) io) {fp : Nat → Option Nat} (hE8 : E 8 = aQ G 4 6 fp) (hfp : ∀ i, i < 6 → fp i = some (ad (9 + 6 * i))) (p : Int32)  : CtQ l G yX8_programAt cX8_programAt 2 (.object "OddHours$Program") 0 0 n ad E [.ref (ad 0), .int p] (fun r E' => ((¬ (0 ≤ p.toInt ∧ p.toInt < 6) ∧ r = none) ∨ (∃ i : Nat, i < 6 ∧ p.toInt = (i : Int) ∧ r = some (ad (9 + 6 * i)))) ∧ E = E') := by
  refine CtQ.of (by decide) (Nat.le_of_ble_eq_true rfl) (fun X A C => ?_)
  refine v_sub (lv' := [(0, .ref (ad 0)), (1, .int p)]) [0, 1] rfl ?_
  refine v_iload_n C 1 dX8_programAt_0 rfl rfl ?_
  refine b_if_lt C 19 dX8_programAt_1 (by decide) (rfl : Int32.toInt p = _) (fun c1 => ?_) (fun c1 => ?_)
  · refine v_null C dX8_programAt_19 ?_
    exact v_qret (v := none) C dX8_programAt_20 rfl ⟨Or.inl ⟨by omega, rfl⟩, rfl⟩
  · refine v_iload_n C 1 dX8_programAt_4 rfl rfl ?_
    refine v_bipush (v := 6) C dX8_programAt_5 (by decide) ?_
    refine b_icmp_ge C 19 dX8_programAt_7 (by decide) (rfl : Int32.toInt p = _) (show (6 : Int32).toInt = 6 by decide) (fun c2 => ?_) (fun c2 => ?_)
    · refine v_null C dX8_programAt_19 ?_
      exact v_qret (v := none) C dX8_programAt_20 rfl ⟨Or.inl ⟨by omega, rfl⟩, rfl⟩
    · refine v_aload_n C 0 dX8_programAt_10 rfl rfl ?_
      refine v_getr C 0 dX8_programAt_11 fX8_25 (by omega) hE0 rfl rfl ?_
      refine v_iload_n C 1 dX8_programAt_14 rfl rfl ?_
      refine v_aldP (v := fp p.toInt.toNat) C 8 dX8_programAt_15 (by omega) hE8 (ti_in (rfl : Int32.toInt p = _) (by omega) (by omega)) (by rw [ti_cl (rfl : Int32.toInt p = _)]) ?_
      refine v_goto C 20 dX8_programAt_16 (by decide) ?_
      exact v_qret C dX8_programAt_20 rfl ⟨Or.inr ⟨p.toInt.toNat, by omega, by omega, hfp _ (by omega)⟩, rfl⟩

set_option maxRecDepth 20000 in
theorem g_clear (l : Launch) (G : Gl) (n : Nat) (ad : Nat → Nat) (E : Nat → va_E) (hN : 68 ≤ n) {io iz : Nat → Int32} (hE0 : E 0 = ob 8 (rfs ad [1, 6, 8, 48, 45, 51]) io) (hE6 : E 6 = ob 7 (rfs ad [7]) iz) {fp : Nat → Option Nat} (hE8 : E 8 = aQ G 4 6 fp) (hfp : ∀ i, i < 6 → fp i = some (ad (9 + 6 * i))) {fl : Nat → Int32} (hPg : ∀ i, i < 6 → PgW G ad (9 + 6 * i) E (fl i)) (hbl : ∀ i, 0 ≤ (fl i).toInt ∧ (fl i).toInt ≤ 10) (p : Int32)  : CtI l G yX8_clear cX8_clear 4 .int 4 88 n ad E [.ref (ad 0), .int p] (fun r E' => (¬ (0 ≤ p.toInt ∧ p.toInt < 6) ∧ r.toInt = -1 ∧ E = E') ∨ (∃ i : Nat, i < 6 ∧ p.toInt = (i : Int) ∧ r = fl i ∧ PgW G ad (9 + 6 * i) E' 0 ∧ Fr6 (9 + 6 * i) E E')) := by
  refine CtI.of (by decide) (Nat.le_of_ble_eq_true rfl) (fun X A C => ?_)
  refine v_sub (lv' := [(0, .ref (ad 0)), (1, .int p)]) [0, 1] rfl ?_
  refine v_aload_n C 0 dX8_clear_0 rfl rfl ?_
  refine v_iload_n C 1 dX8_clear_1 rfl rfl ?_
  refine v_cVr C dX8_clear_2 lX8_177 mX8_programAt 0 (by omega) hE0 (by decide) rfl (g_programAt l G n ad _ (by omega) hE0 hE8 hfp p) ⟨by decide, by decide⟩ rfl (Nat.le_of_ble_eq_true rfl) ⟨Nat.zero_le _, Nat.zero_le _⟩ (fun r1 hp2 => ?_)
  rcases hp2 with ⟨hno, rfl⟩ | ⟨i, hi, hpi, rfl⟩
  · refine v_astore_nN (lv' := [(0, .ref (ad 0)), (1, .int p), (2, .null)]) C [1, 2, 0] dX8_clear_5 rfl (by decide) rfl ?_
    refine v_aload_nN C 2 dX8_clear_6 rfl rfl ?_
    refine v_ifnonnullN C dX8_clear_7 ?_
    refine v_iconst (v := (-1)) C dX8_clear_10 (by decide) ?_
    exact v_ret C dX8_clear_11 rfl rfl (Or.inl ⟨by omega, by decide, rfl⟩)
  · obtain ⟨ip, po, px, py, tp, kd, hc0, hsz, -, -, -, -, -, -, -⟩ := id (hPg i hi)
    have hbi := hbl i
    have hsi : (ip 6).toInt = (fl i).toInt := by rw [hsz]
    refine v_astore_n (lv' := [(0, .ref (ad 0)), (1, .int p), (2, .ref (ad (9 + 6 * i)))]) C [1, 2, 0] dX8_clear_5 rfl (by decide) rfl ?_
    refine v_aload_n C 2 dX8_clear_6 rfl rfl ?_
    refine v_ifnonnull C 12 dX8_clear_7 (by decide) ?_
    refine v_aload_n C 2 dX8_clear_12 rfl rfl ?_
    refine v_geti (v := ip 6) C (9 + 6 * i) dX8_clear_13 fX8_181 (by omega) hc0 rfl rfl ?_
    refine v_istore_n (lv' := [(0, .ref (ad 0)), (1, .int p), (2, .ref (ad (9 + 6 * i))), (3, .int (ip 6))]) C [1, 2, 3, 0] dX8_clear_16 rfl (by decide) rfl ?_
    refine v_aload_n C 2 dX8_clear_17 rfl rfl ?_
    refine v_cVv C dX8_clear_18 lX8_182 mX5_empty (9 + 6 * i) (by omega) hc0 (by decide) rfl (c_empty l G n ad _ (9 + 6 * i) (by omega) (hPg i hi) hbi.1 hbi.2) ⟨by decide, by decide⟩ rfl (Nat.le_of_ble_eq_true rfl) ⟨Nat.zero_le _, Nat.zero_le _⟩ (fun E3 hq4 => ?_)
    refine v_iload_n C 3 dX8_clear_21 rfl rfl ?_
    exact v_ret C dX8_clear_22 rfl rfl (Or.inr ⟨i, hi, hpi, hsz, hq4.1, hq4.2⟩)

set_option maxRecDepth 20000 in
theorem g_line (l : Launch) (G : Gl) (n : Nat) (ad : Nat → Nat) (E : Nat → va_E) (hN : 68 ≤ n) {io iz : Nat → Int32} (hE0 : E 0 = ob 8 (rfs ad [1, 6, 8, 48, 45, 51]) io) (hE6 : E 6 = ob 7 (rfs ad [7]) iz) {fp : Nat → Option Nat} (hE8 : E 8 = aQ G 4 6 fp) (hfp : ∀ i, i < 6 → fp i = some (ad (9 + 6 * i))) {fl : Nat → Int32} (hPg : ∀ i, i < 6 → PgW G ad (9 + 6 * i) E (fl i)) (hbl : ∀ i, 0 ≤ (fl i).toInt ∧ (fl i).toInt ≤ 10) (p op x y : Int32)  : CtI l G yX8_line cX8_line 7 .int 5 115 n ad E [.ref (ad 0), .int p, .int op, .int x, .int y] (fun r E' => (¬ (0 ≤ p.toInt ∧ p.toInt < 6 ∧ okLn (iz 1).toInt op.toInt x.toInt y.toInt) ∧ r.toInt = -1 ∧ E = E') ∨ (∃ i : Nat, i < 6 ∧ p.toInt = (i : Int) ∧ okLn (iz 1).toInt op.toInt x.toInt y.toInt ∧ (fl i).toInt = 10 ∧ r.toInt = -2 ∧ E = E') ∨ (∃ i : Nat, i < 6 ∧ p.toInt = (i : Int) ∧ okLn (iz 1).toInt op.toInt x.toInt y.toInt ∧ (fl i).toInt < 10 ∧ r.toInt = (fl i).toInt ∧ ∃ z : Int32, z.toInt = (fl i).toInt + 1 ∧ PgW G ad (9 + 6 * i) E' z ∧ Fr6 (9 + 6 * i) E E')) := by
  refine CtI.of (by decide) (Nat.le_of_ble_eq_true rfl) (fun X A C => ?_)
  refine v_sub (lv' := [(0, .ref (ad 0)), (1, .int p), (2, .int op), (3, .int x), (4, .int y)]) [0, 1, 2, 3, 4] rfl ?_
  refine v_aload_n C 0 dX8_line_0 rfl rfl ?_
  refine v_iload_n C 1 dX8_line_1 rfl rfl ?_
  refine v_cVr C dX8_line_2 lX8_177 mX8_programAt 0 (by omega) hE0 (by decide) rfl (g_programAt l G n ad _ (by omega) hE0 hE8 hfp p) ⟨by decide, by decide⟩ rfl (Nat.le_of_ble_eq_true rfl) ⟨Nat.zero_le _, Nat.zero_le _⟩ (fun r1 hp2 => ?_)
  rcases hp2 with ⟨hno, rfl⟩ | ⟨i, hi, hpi, rfl⟩
  · refine v_astoreN (lv' := [(0, .ref (ad 0)), (1, .int p), (2, .int op), (3, .int x), (4, .int y), (5, .null)]) C [1, 2, 3, 4, 5, 0] dX8_line_5 (by decide) rfl ?_
    refine v_aloadN C 5 dX8_line_7 rfl ?_
    refine v_ifnullN C 37 dX8_line_9 (by decide) ?_
    refine v_iconst (v := (-1)) C dX8_line_37 (by decide) ?_
    exact v_ret C dX8_line_38 rfl rfl (Or.inl ⟨(by unfold okLn; omega), by decide, rfl⟩)
  · obtain ⟨ip, po, px, py, tp, kd, hc0, hsz, -, -, -, -, -, -, -⟩ := id (hPg i hi)
    have hbi := hbl i
    have hsi : (ip 6).toInt = (fl i).toInt := by rw [hsz]
    refine v_astore (lv' := [(0, .ref (ad 0)), (1, .int p), (2, .int op), (3, .int x), (4, .int y), (5, .ref (ad (9 + 6 * i)))]) C [1, 2, 3, 4, 5, 0] dX8_line_5 (by decide) rfl ?_
    refine v_aload C 5 dX8_line_7 rfl ?_
    refine v_ifnull C dX8_line_9 ?_
    refine v_iload_n C 2 dX8_line_12 rfl rfl ?_
    refine b_if_lt C 37 dX8_line_13 (by decide) (rfl : Int32.toInt op = _) (fun c3 => ?_) (fun c3 => ?_)
    · refine v_iconst (v := (-1)) C dX8_line_37 (by decide) ?_
      exact v_ret C dX8_line_38 rfl rfl (Or.inl ⟨(by unfold okLn; omega), by decide, rfl⟩)
    · refine v_iload_n C 2 dX8_line_16 rfl rfl ?_
      refine v_bipush (v := 12) C dX8_line_17 (by decide) ?_
      refine b_icmp_ge C 37 dX8_line_19 (by decide) (rfl : Int32.toInt op = _) (show (12 : Int32).toInt = 12 by decide) (fun c4 => ?_) (fun c4 => ?_)
      · refine v_iconst (v := (-1)) C dX8_line_37 (by decide) ?_
        exact v_ret C dX8_line_38 rfl rfl (Or.inl ⟨(by unfold okLn; omega), by decide, rfl⟩)
      · refine v_iload C 4 dX8_line_22 rfl ?_
        refine b_if_lt C 37 dX8_line_24 (by decide) (rfl : Int32.toInt y = _) (fun c5 => ?_) (fun c5 => ?_)
        · refine v_iconst (v := (-1)) C dX8_line_37 (by decide) ?_
          exact v_ret C dX8_line_38 rfl rfl (Or.inl ⟨(by unfold okLn; omega), by decide, rfl⟩)
        · rcases (show op.toInt = 0 ∨ op.toInt = 1 ∨ op.toInt = 2 ∨ op.toInt = 3 ∨ op.toInt = 4 ∨ op.toInt = 5 ∨ op.toInt = 6 ∨ op.toInt = 7 ∨ op.toInt = 8 ∨ op.toInt = 9 ∨ op.toInt = 10 ∨ op.toInt = 11 by omega) with q6 | q6 | q6 | q6 | q6 | q6 | q6 | q6 | q6 | q6 | q6 | q6
          · obtain rfl : op = 0 := ti_ext (by rw [q6]; decide)
            refine v_iload C 4 dX8_line_27 rfl ?_
            refine v_gstY C dX8_line_29 (in_t3 (List.mem_of_getElem? (i := 81) rfl) rfl) ?_
            refine v_iload_n C 2 dX8_line_32 rfl rfl ?_
            refine v_lstY (v := 0) C dX8_line_33 (ti_in (show (0 : Int32).toInt = 0 by decide) (by omega) (by omega)) (by decide) ?_
            refine b_icmp_le C 39 dX8_line_34 (by decide) (rfl : Int32.toInt y = _) (show (0 : Int32).toInt = 0 by decide) (fun c7 => ?_) (fun c7 => ?_)
            · refine v_iload_n C 2 dX8_line_39 rfl rfl ?_
              refine v_iconst (v := 1) C dX8_line_40 (by decide) ?_
              refine b_icmp_eq C 49 dX8_line_41 (by decide) (show (0 : Int32).toInt = 0 by decide) (show (1 : Int32).toInt = 1 by decide) (fun c8 => absurd c8 (by decide)) (fun c8 => ?_)
              refine v_iload_n C 2 dX8_line_44 rfl rfl ?_
              refine v_iconst (v := 4) C dX8_line_45 (by decide) ?_
              refine b_icmp_ne C 53 dX8_line_46 (by decide) (show (0 : Int32).toInt = 0 by decide) (show (4 : Int32).toInt = 4 by decide) (fun c9 => ?_) (fun c9 => absurd c9 (by decide))
              refine v_iconst (v := 0) C dX8_line_53 (by decide) ?_
              refine v_istore (lv' := [(0, .ref (ad 0)), (1, .int p), (2, .int 0), (3, .int x), (4, .int y), (5, .ref (ad (9 + 6 * i))), (6, .int 0)]) C [1, 2, 3, 4, 5, 6, 0] dX8_line_54 (by decide) rfl ?_
              refine v_iload_n C 3 dX8_line_56 rfl rfl ?_
              refine v_gstL C dX8_line_57 (in_t3 (List.mem_of_getElem? (i := 83) rfl) rfl) ?_
              refine v_iload_n C 2 dX8_line_60 rfl rfl ?_
              refine v_lstL (v := 0) C dX8_line_61 (ti_in (show (0 : Int32).toInt = 0 by decide) (by omega) (by omega)) (by decide) ?_
              refine b_icmp_lt C 93 dX8_line_62 (by decide) (rfl : Int32.toInt x = _) (show (0 : Int32).toInt = 0 by decide) (fun c10 => ?_) (fun c10 => ?_)
              · refine v_iconst (v := (-1)) C dX8_line_93 (by decide) ?_
                exact v_ret C dX8_line_94 rfl rfl (Or.inl ⟨(by have hq := (show (0 : Int32).toInt = 0 by decide); unfold okLn; omega), by decide, rfl⟩)
              · refine v_iload C 6 dX8_line_65 rfl ?_
                refine b_if_eq C 84 dX8_line_67 (by decide) (show (0 : Int32).toInt = 0 by decide) (fun c11 => ?_) (fun c11 => absurd c11 (by decide))
                refine v_iload_n C 3 dX8_line_84 rfl rfl ?_
                refine v_gstX C dX8_line_85 (in_t3 (List.mem_of_getElem? (i := 85) rfl) rfl) ?_
                refine v_iload_n C 2 dX8_line_88 rfl rfl ?_
                refine v_lstX (v := 0) C dX8_line_89 (ti_in (show (0 : Int32).toInt = 0 by decide) (by omega) (by omega)) (by decide) ?_
                refine b_icmp_le C 95 dX8_line_90 (by decide) (rfl : Int32.toInt x = _) (show (0 : Int32).toInt = 0 by decide) (fun c12 => ?_) (fun c12 => ?_)
                · refine v_aload C 5 dX8_line_95 rfl ?_
                  refine v_geti (v := ip 6) C (9 + 6 * i) dX8_line_97 fX8_181 (by omega) hc0 rfl rfl ?_
                  refine v_bipush (v := 10) C dX8_line_100 (by decide) ?_
                  refine b_icmp_lt C 108 dX8_line_102 (by decide) hsi (show (10 : Int32).toInt = 10 by decide) (fun c13 => ?_) (fun c13 => ?_)
                  · refine v_aload C 5 dX8_line_108 rfl ?_
                    refine v_iload_n C 2 dX8_line_110 rfl rfl ?_
                    refine v_iload_n C 3 dX8_line_111 rfl rfl ?_
                    refine v_iload C 4 dX8_line_112 rfl ?_
                    refine v_cVv C dX8_line_114 lX8_194 mX5_append (9 + 6 * i) (by omega) hc0 (by decide) rfl (c_append l G n ad _ (9 + 6 * i) (by omega) (hPg i hi) hbi.1 hbi.2 0 x y) ⟨by decide, by decide⟩ rfl (Nat.le_of_ble_eq_true rfl) ⟨Nat.zero_le _, Nat.zero_le _⟩ (fun E14 hq15 => ?_)
                    rcases hq15 with ⟨hbad, -, -⟩ | ⟨z, hz1, hz2, hz3, hz4⟩
                    · exact absurd hbad (by omega)
                    obtain ⟨jp, jo, jx, jy, jt, jd, hd0, hdz, -, -, -, -, -, -, -⟩ := id hz3
                    have hdj : (jp 6).toInt = (fl i).toInt + 1 := by rw [hdz, hz2]
                    refine v_aload C 5 dX8_line_117 rfl ?_
                    refine v_geti (v := jp 6) C (9 + 6 * i) dX8_line_119 fX8_181 (by omega) hd0 rfl rfl ?_
                    refine v_iconst (v := 1) C dX8_line_122 (by decide) ?_
                    refine v_isub C dX8_line_123 ?_
                    refine v_top (fun x16 ex16 => ?_)
                    have hx16 : x16.toInt = (((fl i).toInt + 1) - 1) := by rw [ex16]; exact ti_sub hdj (show (1 : Int32).toInt = 1 by decide) (by omega) (by omega)
                    exact v_ret C dX8_line_124 rfl rfl (Or.inr (Or.inr ⟨i, hi, hpi, (by have hq := (show (0 : Int32).toInt = 0 by decide); unfold okLn; omega), by omega, (by rw [hx16]; omega), z, hz2, hz3, hz4⟩))
                  · refine v_bipush (v := (-2)) C dX8_line_105 (by decide) ?_
                    exact v_ret C dX8_line_107 rfl rfl (Or.inr (Or.inl ⟨i, hi, hpi, (by have hq := (show (0 : Int32).toInt = 0 by decide); unfold okLn; omega), by omega, by decide, rfl⟩))
                · refine v_iconst (v := (-1)) C dX8_line_93 (by decide) ?_
                  exact v_ret C dX8_line_94 rfl rfl (Or.inl ⟨(by have hq := (show (0 : Int32).toInt = 0 by decide); unfold okLn; omega), by decide, rfl⟩)
            · refine v_iconst (v := (-1)) C dX8_line_37 (by decide) ?_
              exact v_ret C dX8_line_38 rfl rfl (Or.inl ⟨(by have hq := (show (0 : Int32).toInt = 0 by decide); unfold okLn; omega), by decide, rfl⟩)
          · obtain rfl : op = 1 := ti_ext (by rw [q6]; decide)
            refine v_iload C 4 dX8_line_27 rfl ?_
            refine v_gstY C dX8_line_29 (in_t3 (List.mem_of_getElem? (i := 81) rfl) rfl) ?_
            refine v_iload_n C 2 dX8_line_32 rfl rfl ?_
            refine v_lstY (v := 0) C dX8_line_33 (ti_in (show (1 : Int32).toInt = 1 by decide) (by omega) (by omega)) (by decide) ?_
            refine b_icmp_le C 39 dX8_line_34 (by decide) (rfl : Int32.toInt y = _) (show (0 : Int32).toInt = 0 by decide) (fun c17 => ?_) (fun c17 => ?_)
            · refine v_iload_n C 2 dX8_line_39 rfl rfl ?_
              refine v_iconst (v := 1) C dX8_line_40 (by decide) ?_
              refine b_icmp_eq C 49 dX8_line_41 (by decide) (show (1 : Int32).toInt = 1 by decide) (show (1 : Int32).toInt = 1 by decide) (fun c18 => ?_) (fun c18 => absurd c18 (by decide))
              refine v_iconst (v := 1) C dX8_line_49 (by decide) ?_
              refine v_goto C 54 dX8_line_50 (by decide) ?_
              refine v_istore (lv' := [(0, .ref (ad 0)), (1, .int p), (2, .int 1), (3, .int x), (4, .int y), (5, .ref (ad (9 + 6 * i))), (6, .int 1)]) C [1, 2, 3, 4, 5, 6, 0] dX8_line_54 (by decide) rfl ?_
              refine v_iload_n C 3 dX8_line_56 rfl rfl ?_
              refine v_gstL C dX8_line_57 (in_t3 (List.mem_of_getElem? (i := 83) rfl) rfl) ?_
              refine v_iload_n C 2 dX8_line_60 rfl rfl ?_
              refine v_lstL (v := 0) C dX8_line_61 (ti_in (show (1 : Int32).toInt = 1 by decide) (by omega) (by omega)) (by decide) ?_
              refine b_icmp_lt C 93 dX8_line_62 (by decide) (rfl : Int32.toInt x = _) (show (0 : Int32).toInt = 0 by decide) (fun c19 => ?_) (fun c19 => ?_)
              · refine v_iconst (v := (-1)) C dX8_line_93 (by decide) ?_
                exact v_ret C dX8_line_94 rfl rfl (Or.inl ⟨(by have hq := (show (1 : Int32).toInt = 1 by decide); unfold okLn; omega), by decide, rfl⟩)
              · refine v_iload C 6 dX8_line_65 rfl ?_
                refine b_if_eq C 84 dX8_line_67 (by decide) (show (1 : Int32).toInt = 1 by decide) (fun c20 => absurd c20 (by decide)) (fun c20 => ?_)
                refine v_iload_n C 3 dX8_line_70 rfl rfl ?_
                refine v_aload_n C 0 dX8_line_71 rfl rfl ?_
                refine v_getr C 0 dX8_line_72 fX8_19 (by omega) hE0 rfl rfl ?_
                refine v_geti (v := iz 1) C 6 dX8_line_75 fX8_64 (by omega) hE6 rfl rfl ?_
                refine b_icmp_lt C 95 dX8_line_78 (by decide) (rfl : Int32.toInt x = _) (rfl : Int32.toInt (iz 1) = _) (fun c21 => ?_) (fun c21 => ?_)
                · refine v_aload C 5 dX8_line_95 rfl ?_
                  refine v_geti (v := ip 6) C (9 + 6 * i) dX8_line_97 fX8_181 (by omega) hc0 rfl rfl ?_
                  refine v_bipush (v := 10) C dX8_line_100 (by decide) ?_
                  refine b_icmp_lt C 108 dX8_line_102 (by decide) hsi (show (10 : Int32).toInt = 10 by decide) (fun c22 => ?_) (fun c22 => ?_)
                  · refine v_aload C 5 dX8_line_108 rfl ?_
                    refine v_iload_n C 2 dX8_line_110 rfl rfl ?_
                    refine v_iload_n C 3 dX8_line_111 rfl rfl ?_
                    refine v_iload C 4 dX8_line_112 rfl ?_
                    refine v_cVv C dX8_line_114 lX8_194 mX5_append (9 + 6 * i) (by omega) hc0 (by decide) rfl (c_append l G n ad _ (9 + 6 * i) (by omega) (hPg i hi) hbi.1 hbi.2 1 x y) ⟨by decide, by decide⟩ rfl (Nat.le_of_ble_eq_true rfl) ⟨Nat.zero_le _, Nat.zero_le _⟩ (fun E23 hq24 => ?_)
                    rcases hq24 with ⟨hbad, -, -⟩ | ⟨z, hz1, hz2, hz3, hz4⟩
                    · exact absurd hbad (by omega)
                    obtain ⟨jp, jo, jx, jy, jt, jd, hd0, hdz, -, -, -, -, -, -, -⟩ := id hz3
                    have hdj : (jp 6).toInt = (fl i).toInt + 1 := by rw [hdz, hz2]
                    refine v_aload C 5 dX8_line_117 rfl ?_
                    refine v_geti (v := jp 6) C (9 + 6 * i) dX8_line_119 fX8_181 (by omega) hd0 rfl rfl ?_
                    refine v_iconst (v := 1) C dX8_line_122 (by decide) ?_
                    refine v_isub C dX8_line_123 ?_
                    refine v_top (fun x25 ex25 => ?_)
                    have hx25 : x25.toInt = (((fl i).toInt + 1) - 1) := by rw [ex25]; exact ti_sub hdj (show (1 : Int32).toInt = 1 by decide) (by omega) (by omega)
                    exact v_ret C dX8_line_124 rfl rfl (Or.inr (Or.inr ⟨i, hi, hpi, (by have hq := (show (1 : Int32).toInt = 1 by decide); unfold okLn; omega), by omega, (by rw [hx25]; omega), z, hz2, hz3, hz4⟩))
                  · refine v_bipush (v := (-2)) C dX8_line_105 (by decide) ?_
                    exact v_ret C dX8_line_107 rfl rfl (Or.inr (Or.inl ⟨i, hi, hpi, (by have hq := (show (1 : Int32).toInt = 1 by decide); unfold okLn; omega), by omega, by decide, rfl⟩))
                · refine v_goto C 93 dX8_line_81 (by decide) ?_
                  refine v_iconst (v := (-1)) C dX8_line_93 (by decide) ?_
                  exact v_ret C dX8_line_94 rfl rfl (Or.inl ⟨(by have hq := (show (1 : Int32).toInt = 1 by decide); unfold okLn; omega), by decide, rfl⟩)
            · refine v_iconst (v := (-1)) C dX8_line_37 (by decide) ?_
              exact v_ret C dX8_line_38 rfl rfl (Or.inl ⟨(by have hq := (show (1 : Int32).toInt = 1 by decide); unfold okLn; omega), by decide, rfl⟩)
          · obtain rfl : op = 2 := ti_ext (by rw [q6]; decide)
            refine v_iload C 4 dX8_line_27 rfl ?_
            refine v_gstY C dX8_line_29 (in_t3 (List.mem_of_getElem? (i := 81) rfl) rfl) ?_
            refine v_iload_n C 2 dX8_line_32 rfl rfl ?_
            refine v_lstY (v := 0) C dX8_line_33 (ti_in (show (2 : Int32).toInt = 2 by decide) (by omega) (by omega)) (by decide) ?_
            refine b_icmp_le C 39 dX8_line_34 (by decide) (rfl : Int32.toInt y = _) (show (0 : Int32).toInt = 0 by decide) (fun c26 => ?_) (fun c26 => ?_)
            · refine v_iload_n C 2 dX8_line_39 rfl rfl ?_
              refine v_iconst (v := 1) C dX8_line_40 (by decide) ?_
              refine b_icmp_eq C 49 dX8_line_41 (by decide) (show (2 : Int32).toInt = 2 by decide) (show (1 : Int32).toInt = 1 by decide) (fun c27 => absurd c27 (by decide)) (fun c27 => ?_)
              refine v_iload_n C 2 dX8_line_44 rfl rfl ?_
              refine v_iconst (v := 4) C dX8_line_45 (by decide) ?_
              refine b_icmp_ne C 53 dX8_line_46 (by decide) (show (2 : Int32).toInt = 2 by decide) (show (4 : Int32).toInt = 4 by decide) (fun c28 => ?_) (fun c28 => absurd c28 (by decide))
              refine v_iconst (v := 0) C dX8_line_53 (by decide) ?_
              refine v_istore (lv' := [(0, .ref (ad 0)), (1, .int p), (2, .int 2), (3, .int x), (4, .int y), (5, .ref (ad (9 + 6 * i))), (6, .int 0)]) C [1, 2, 3, 4, 5, 6, 0] dX8_line_54 (by decide) rfl ?_
              refine v_iload_n C 3 dX8_line_56 rfl rfl ?_
              refine v_gstL C dX8_line_57 (in_t3 (List.mem_of_getElem? (i := 83) rfl) rfl) ?_
              refine v_iload_n C 2 dX8_line_60 rfl rfl ?_
              refine v_lstL (v := 0) C dX8_line_61 (ti_in (show (2 : Int32).toInt = 2 by decide) (by omega) (by omega)) (by decide) ?_
              refine b_icmp_lt C 93 dX8_line_62 (by decide) (rfl : Int32.toInt x = _) (show (0 : Int32).toInt = 0 by decide) (fun c29 => ?_) (fun c29 => ?_)
              · refine v_iconst (v := (-1)) C dX8_line_93 (by decide) ?_
                exact v_ret C dX8_line_94 rfl rfl (Or.inl ⟨(by have hq := (show (2 : Int32).toInt = 2 by decide); unfold okLn; omega), by decide, rfl⟩)
              · refine v_iload C 6 dX8_line_65 rfl ?_
                refine b_if_eq C 84 dX8_line_67 (by decide) (show (0 : Int32).toInt = 0 by decide) (fun c30 => ?_) (fun c30 => absurd c30 (by decide))
                refine v_iload_n C 3 dX8_line_84 rfl rfl ?_
                refine v_gstX C dX8_line_85 (in_t3 (List.mem_of_getElem? (i := 85) rfl) rfl) ?_
                refine v_iload_n C 2 dX8_line_88 rfl rfl ?_
                refine v_lstX (v := 0) C dX8_line_89 (ti_in (show (2 : Int32).toInt = 2 by decide) (by omega) (by omega)) (by decide) ?_
                refine b_icmp_le C 95 dX8_line_90 (by decide) (rfl : Int32.toInt x = _) (show (0 : Int32).toInt = 0 by decide) (fun c31 => ?_) (fun c31 => ?_)
                · refine v_aload C 5 dX8_line_95 rfl ?_
                  refine v_geti (v := ip 6) C (9 + 6 * i) dX8_line_97 fX8_181 (by omega) hc0 rfl rfl ?_
                  refine v_bipush (v := 10) C dX8_line_100 (by decide) ?_
                  refine b_icmp_lt C 108 dX8_line_102 (by decide) hsi (show (10 : Int32).toInt = 10 by decide) (fun c32 => ?_) (fun c32 => ?_)
                  · refine v_aload C 5 dX8_line_108 rfl ?_
                    refine v_iload_n C 2 dX8_line_110 rfl rfl ?_
                    refine v_iload_n C 3 dX8_line_111 rfl rfl ?_
                    refine v_iload C 4 dX8_line_112 rfl ?_
                    refine v_cVv C dX8_line_114 lX8_194 mX5_append (9 + 6 * i) (by omega) hc0 (by decide) rfl (c_append l G n ad _ (9 + 6 * i) (by omega) (hPg i hi) hbi.1 hbi.2 2 x y) ⟨by decide, by decide⟩ rfl (Nat.le_of_ble_eq_true rfl) ⟨Nat.zero_le _, Nat.zero_le _⟩ (fun E33 hq34 => ?_)
                    rcases hq34 with ⟨hbad, -, -⟩ | ⟨z, hz1, hz2, hz3, hz4⟩
                    · exact absurd hbad (by omega)
                    obtain ⟨jp, jo, jx, jy, jt, jd, hd0, hdz, -, -, -, -, -, -, -⟩ := id hz3
                    have hdj : (jp 6).toInt = (fl i).toInt + 1 := by rw [hdz, hz2]
                    refine v_aload C 5 dX8_line_117 rfl ?_
                    refine v_geti (v := jp 6) C (9 + 6 * i) dX8_line_119 fX8_181 (by omega) hd0 rfl rfl ?_
                    refine v_iconst (v := 1) C dX8_line_122 (by decide) ?_
                    refine v_isub C dX8_line_123 ?_
                    refine v_top (fun x35 ex35 => ?_)
                    have hx35 : x35.toInt = (((fl i).toInt + 1) - 1) := by rw [ex35]; exact ti_sub hdj (show (1 : Int32).toInt = 1 by decide) (by omega) (by omega)
                    exact v_ret C dX8_line_124 rfl rfl (Or.inr (Or.inr ⟨i, hi, hpi, (by have hq := (show (2 : Int32).toInt = 2 by decide); unfold okLn; omega), by omega, (by rw [hx35]; omega), z, hz2, hz3, hz4⟩))
                  · refine v_bipush (v := (-2)) C dX8_line_105 (by decide) ?_
                    exact v_ret C dX8_line_107 rfl rfl (Or.inr (Or.inl ⟨i, hi, hpi, (by have hq := (show (2 : Int32).toInt = 2 by decide); unfold okLn; omega), by omega, by decide, rfl⟩))
                · refine v_iconst (v := (-1)) C dX8_line_93 (by decide) ?_
                  exact v_ret C dX8_line_94 rfl rfl (Or.inl ⟨(by have hq := (show (2 : Int32).toInt = 2 by decide); unfold okLn; omega), by decide, rfl⟩)
            · refine v_iconst (v := (-1)) C dX8_line_37 (by decide) ?_
              exact v_ret C dX8_line_38 rfl rfl (Or.inl ⟨(by have hq := (show (2 : Int32).toInt = 2 by decide); unfold okLn; omega), by decide, rfl⟩)
          · obtain rfl : op = 3 := ti_ext (by rw [q6]; decide)
            refine v_iload C 4 dX8_line_27 rfl ?_
            refine v_gstY C dX8_line_29 (in_t3 (List.mem_of_getElem? (i := 81) rfl) rfl) ?_
            refine v_iload_n C 2 dX8_line_32 rfl rfl ?_
            refine v_lstY (v := 0) C dX8_line_33 (ti_in (show (3 : Int32).toInt = 3 by decide) (by omega) (by omega)) (by decide) ?_
            refine b_icmp_le C 39 dX8_line_34 (by decide) (rfl : Int32.toInt y = _) (show (0 : Int32).toInt = 0 by decide) (fun c36 => ?_) (fun c36 => ?_)
            · refine v_iload_n C 2 dX8_line_39 rfl rfl ?_
              refine v_iconst (v := 1) C dX8_line_40 (by decide) ?_
              refine b_icmp_eq C 49 dX8_line_41 (by decide) (show (3 : Int32).toInt = 3 by decide) (show (1 : Int32).toInt = 1 by decide) (fun c37 => absurd c37 (by decide)) (fun c37 => ?_)
              refine v_iload_n C 2 dX8_line_44 rfl rfl ?_
              refine v_iconst (v := 4) C dX8_line_45 (by decide) ?_
              refine b_icmp_ne C 53 dX8_line_46 (by decide) (show (3 : Int32).toInt = 3 by decide) (show (4 : Int32).toInt = 4 by decide) (fun c38 => ?_) (fun c38 => absurd c38 (by decide))
              refine v_iconst (v := 0) C dX8_line_53 (by decide) ?_
              refine v_istore (lv' := [(0, .ref (ad 0)), (1, .int p), (2, .int 3), (3, .int x), (4, .int y), (5, .ref (ad (9 + 6 * i))), (6, .int 0)]) C [1, 2, 3, 4, 5, 6, 0] dX8_line_54 (by decide) rfl ?_
              refine v_iload_n C 3 dX8_line_56 rfl rfl ?_
              refine v_gstL C dX8_line_57 (in_t3 (List.mem_of_getElem? (i := 83) rfl) rfl) ?_
              refine v_iload_n C 2 dX8_line_60 rfl rfl ?_
              refine v_lstL (v := 0) C dX8_line_61 (ti_in (show (3 : Int32).toInt = 3 by decide) (by omega) (by omega)) (by decide) ?_
              refine b_icmp_lt C 93 dX8_line_62 (by decide) (rfl : Int32.toInt x = _) (show (0 : Int32).toInt = 0 by decide) (fun c39 => ?_) (fun c39 => ?_)
              · refine v_iconst (v := (-1)) C dX8_line_93 (by decide) ?_
                exact v_ret C dX8_line_94 rfl rfl (Or.inl ⟨(by have hq := (show (3 : Int32).toInt = 3 by decide); unfold okLn; omega), by decide, rfl⟩)
              · refine v_iload C 6 dX8_line_65 rfl ?_
                refine b_if_eq C 84 dX8_line_67 (by decide) (show (0 : Int32).toInt = 0 by decide) (fun c40 => ?_) (fun c40 => absurd c40 (by decide))
                refine v_iload_n C 3 dX8_line_84 rfl rfl ?_
                refine v_gstX C dX8_line_85 (in_t3 (List.mem_of_getElem? (i := 85) rfl) rfl) ?_
                refine v_iload_n C 2 dX8_line_88 rfl rfl ?_
                refine v_lstX (v := 1439) C dX8_line_89 (ti_in (show (3 : Int32).toInt = 3 by decide) (by omega) (by omega)) (by decide) ?_
                refine b_icmp_le C 95 dX8_line_90 (by decide) (rfl : Int32.toInt x = _) (show (1439 : Int32).toInt = 1439 by decide) (fun c41 => ?_) (fun c41 => ?_)
                · refine v_aload C 5 dX8_line_95 rfl ?_
                  refine v_geti (v := ip 6) C (9 + 6 * i) dX8_line_97 fX8_181 (by omega) hc0 rfl rfl ?_
                  refine v_bipush (v := 10) C dX8_line_100 (by decide) ?_
                  refine b_icmp_lt C 108 dX8_line_102 (by decide) hsi (show (10 : Int32).toInt = 10 by decide) (fun c42 => ?_) (fun c42 => ?_)
                  · refine v_aload C 5 dX8_line_108 rfl ?_
                    refine v_iload_n C 2 dX8_line_110 rfl rfl ?_
                    refine v_iload_n C 3 dX8_line_111 rfl rfl ?_
                    refine v_iload C 4 dX8_line_112 rfl ?_
                    refine v_cVv C dX8_line_114 lX8_194 mX5_append (9 + 6 * i) (by omega) hc0 (by decide) rfl (c_append l G n ad _ (9 + 6 * i) (by omega) (hPg i hi) hbi.1 hbi.2 3 x y) ⟨by decide, by decide⟩ rfl (Nat.le_of_ble_eq_true rfl) ⟨Nat.zero_le _, Nat.zero_le _⟩ (fun E43 hq44 => ?_)
                    rcases hq44 with ⟨hbad, -, -⟩ | ⟨z, hz1, hz2, hz3, hz4⟩
                    · exact absurd hbad (by omega)
                    obtain ⟨jp, jo, jx, jy, jt, jd, hd0, hdz, -, -, -, -, -, -, -⟩ := id hz3
                    have hdj : (jp 6).toInt = (fl i).toInt + 1 := by rw [hdz, hz2]
                    refine v_aload C 5 dX8_line_117 rfl ?_
                    refine v_geti (v := jp 6) C (9 + 6 * i) dX8_line_119 fX8_181 (by omega) hd0 rfl rfl ?_
                    refine v_iconst (v := 1) C dX8_line_122 (by decide) ?_
                    refine v_isub C dX8_line_123 ?_
                    refine v_top (fun x45 ex45 => ?_)
                    have hx45 : x45.toInt = (((fl i).toInt + 1) - 1) := by rw [ex45]; exact ti_sub hdj (show (1 : Int32).toInt = 1 by decide) (by omega) (by omega)
                    exact v_ret C dX8_line_124 rfl rfl (Or.inr (Or.inr ⟨i, hi, hpi, (by have hq := (show (3 : Int32).toInt = 3 by decide); unfold okLn; omega), by omega, (by rw [hx45]; omega), z, hz2, hz3, hz4⟩))
                  · refine v_bipush (v := (-2)) C dX8_line_105 (by decide) ?_
                    exact v_ret C dX8_line_107 rfl rfl (Or.inr (Or.inl ⟨i, hi, hpi, (by have hq := (show (3 : Int32).toInt = 3 by decide); unfold okLn; omega), by omega, by decide, rfl⟩))
                · refine v_iconst (v := (-1)) C dX8_line_93 (by decide) ?_
                  exact v_ret C dX8_line_94 rfl rfl (Or.inl ⟨(by have hq := (show (3 : Int32).toInt = 3 by decide); unfold okLn; omega), by decide, rfl⟩)
            · refine v_iconst (v := (-1)) C dX8_line_37 (by decide) ?_
              exact v_ret C dX8_line_38 rfl rfl (Or.inl ⟨(by have hq := (show (3 : Int32).toInt = 3 by decide); unfold okLn; omega), by decide, rfl⟩)
          · obtain rfl : op = 4 := ti_ext (by rw [q6]; decide)
            refine v_iload C 4 dX8_line_27 rfl ?_
            refine v_gstY C dX8_line_29 (in_t3 (List.mem_of_getElem? (i := 81) rfl) rfl) ?_
            refine v_iload_n C 2 dX8_line_32 rfl rfl ?_
            refine v_lstY (v := 1) C dX8_line_33 (ti_in (show (4 : Int32).toInt = 4 by decide) (by omega) (by omega)) (by decide) ?_
            refine b_icmp_le C 39 dX8_line_34 (by decide) (rfl : Int32.toInt y = _) (show (1 : Int32).toInt = 1 by decide) (fun c46 => ?_) (fun c46 => ?_)
            · refine v_iload_n C 2 dX8_line_39 rfl rfl ?_
              refine v_iconst (v := 1) C dX8_line_40 (by decide) ?_
              refine b_icmp_eq C 49 dX8_line_41 (by decide) (show (4 : Int32).toInt = 4 by decide) (show (1 : Int32).toInt = 1 by decide) (fun c47 => absurd c47 (by decide)) (fun c47 => ?_)
              refine v_iload_n C 2 dX8_line_44 rfl rfl ?_
              refine v_iconst (v := 4) C dX8_line_45 (by decide) ?_
              refine b_icmp_ne C 53 dX8_line_46 (by decide) (show (4 : Int32).toInt = 4 by decide) (show (4 : Int32).toInt = 4 by decide) (fun c48 => absurd c48 (by decide)) (fun c48 => ?_)
              refine v_iconst (v := 1) C dX8_line_49 (by decide) ?_
              refine v_goto C 54 dX8_line_50 (by decide) ?_
              refine v_istore (lv' := [(0, .ref (ad 0)), (1, .int p), (2, .int 4), (3, .int x), (4, .int y), (5, .ref (ad (9 + 6 * i))), (6, .int 1)]) C [1, 2, 3, 4, 5, 6, 0] dX8_line_54 (by decide) rfl ?_
              refine v_iload_n C 3 dX8_line_56 rfl rfl ?_
              refine v_gstL C dX8_line_57 (in_t3 (List.mem_of_getElem? (i := 83) rfl) rfl) ?_
              refine v_iload_n C 2 dX8_line_60 rfl rfl ?_
              refine v_lstL (v := 0) C dX8_line_61 (ti_in (show (4 : Int32).toInt = 4 by decide) (by omega) (by omega)) (by decide) ?_
              refine b_icmp_lt C 93 dX8_line_62 (by decide) (rfl : Int32.toInt x = _) (show (0 : Int32).toInt = 0 by decide) (fun c49 => ?_) (fun c49 => ?_)
              · refine v_iconst (v := (-1)) C dX8_line_93 (by decide) ?_
                exact v_ret C dX8_line_94 rfl rfl (Or.inl ⟨(by have hq := (show (4 : Int32).toInt = 4 by decide); unfold okLn; omega), by decide, rfl⟩)
              · refine v_iload C 6 dX8_line_65 rfl ?_
                refine b_if_eq C 84 dX8_line_67 (by decide) (show (1 : Int32).toInt = 1 by decide) (fun c50 => absurd c50 (by decide)) (fun c50 => ?_)
                refine v_iload_n C 3 dX8_line_70 rfl rfl ?_
                refine v_aload_n C 0 dX8_line_71 rfl rfl ?_
                refine v_getr C 0 dX8_line_72 fX8_19 (by omega) hE0 rfl rfl ?_
                refine v_geti (v := iz 1) C 6 dX8_line_75 fX8_64 (by omega) hE6 rfl rfl ?_
                refine b_icmp_lt C 95 dX8_line_78 (by decide) (rfl : Int32.toInt x = _) (rfl : Int32.toInt (iz 1) = _) (fun c51 => ?_) (fun c51 => ?_)
                · refine v_aload C 5 dX8_line_95 rfl ?_
                  refine v_geti (v := ip 6) C (9 + 6 * i) dX8_line_97 fX8_181 (by omega) hc0 rfl rfl ?_
                  refine v_bipush (v := 10) C dX8_line_100 (by decide) ?_
                  refine b_icmp_lt C 108 dX8_line_102 (by decide) hsi (show (10 : Int32).toInt = 10 by decide) (fun c52 => ?_) (fun c52 => ?_)
                  · refine v_aload C 5 dX8_line_108 rfl ?_
                    refine v_iload_n C 2 dX8_line_110 rfl rfl ?_
                    refine v_iload_n C 3 dX8_line_111 rfl rfl ?_
                    refine v_iload C 4 dX8_line_112 rfl ?_
                    refine v_cVv C dX8_line_114 lX8_194 mX5_append (9 + 6 * i) (by omega) hc0 (by decide) rfl (c_append l G n ad _ (9 + 6 * i) (by omega) (hPg i hi) hbi.1 hbi.2 4 x y) ⟨by decide, by decide⟩ rfl (Nat.le_of_ble_eq_true rfl) ⟨Nat.zero_le _, Nat.zero_le _⟩ (fun E53 hq54 => ?_)
                    rcases hq54 with ⟨hbad, -, -⟩ | ⟨z, hz1, hz2, hz3, hz4⟩
                    · exact absurd hbad (by omega)
                    obtain ⟨jp, jo, jx, jy, jt, jd, hd0, hdz, -, -, -, -, -, -, -⟩ := id hz3
                    have hdj : (jp 6).toInt = (fl i).toInt + 1 := by rw [hdz, hz2]
                    refine v_aload C 5 dX8_line_117 rfl ?_
                    refine v_geti (v := jp 6) C (9 + 6 * i) dX8_line_119 fX8_181 (by omega) hd0 rfl rfl ?_
                    refine v_iconst (v := 1) C dX8_line_122 (by decide) ?_
                    refine v_isub C dX8_line_123 ?_
                    refine v_top (fun x55 ex55 => ?_)
                    have hx55 : x55.toInt = (((fl i).toInt + 1) - 1) := by rw [ex55]; exact ti_sub hdj (show (1 : Int32).toInt = 1 by decide) (by omega) (by omega)
                    exact v_ret C dX8_line_124 rfl rfl (Or.inr (Or.inr ⟨i, hi, hpi, (by have hq := (show (4 : Int32).toInt = 4 by decide); unfold okLn; omega), by omega, (by rw [hx55]; omega), z, hz2, hz3, hz4⟩))
                  · refine v_bipush (v := (-2)) C dX8_line_105 (by decide) ?_
                    exact v_ret C dX8_line_107 rfl rfl (Or.inr (Or.inl ⟨i, hi, hpi, (by have hq := (show (4 : Int32).toInt = 4 by decide); unfold okLn; omega), by omega, by decide, rfl⟩))
                · refine v_goto C 93 dX8_line_81 (by decide) ?_
                  refine v_iconst (v := (-1)) C dX8_line_93 (by decide) ?_
                  exact v_ret C dX8_line_94 rfl rfl (Or.inl ⟨(by have hq := (show (4 : Int32).toInt = 4 by decide); unfold okLn; omega), by decide, rfl⟩)
            · refine v_iconst (v := (-1)) C dX8_line_37 (by decide) ?_
              exact v_ret C dX8_line_38 rfl rfl (Or.inl ⟨(by have hq := (show (4 : Int32).toInt = 4 by decide); unfold okLn; omega), by decide, rfl⟩)
          · obtain rfl : op = 5 := ti_ext (by rw [q6]; decide)
            refine v_iload C 4 dX8_line_27 rfl ?_
            refine v_gstY C dX8_line_29 (in_t3 (List.mem_of_getElem? (i := 81) rfl) rfl) ?_
            refine v_iload_n C 2 dX8_line_32 rfl rfl ?_
            refine v_lstY (v := 0) C dX8_line_33 (ti_in (show (5 : Int32).toInt = 5 by decide) (by omega) (by omega)) (by decide) ?_
            refine b_icmp_le C 39 dX8_line_34 (by decide) (rfl : Int32.toInt y = _) (show (0 : Int32).toInt = 0 by decide) (fun c56 => ?_) (fun c56 => ?_)
            · refine v_iload_n C 2 dX8_line_39 rfl rfl ?_
              refine v_iconst (v := 1) C dX8_line_40 (by decide) ?_
              refine b_icmp_eq C 49 dX8_line_41 (by decide) (show (5 : Int32).toInt = 5 by decide) (show (1 : Int32).toInt = 1 by decide) (fun c57 => absurd c57 (by decide)) (fun c57 => ?_)
              refine v_iload_n C 2 dX8_line_44 rfl rfl ?_
              refine v_iconst (v := 4) C dX8_line_45 (by decide) ?_
              refine b_icmp_ne C 53 dX8_line_46 (by decide) (show (5 : Int32).toInt = 5 by decide) (show (4 : Int32).toInt = 4 by decide) (fun c58 => ?_) (fun c58 => absurd c58 (by decide))
              refine v_iconst (v := 0) C dX8_line_53 (by decide) ?_
              refine v_istore (lv' := [(0, .ref (ad 0)), (1, .int p), (2, .int 5), (3, .int x), (4, .int y), (5, .ref (ad (9 + 6 * i))), (6, .int 0)]) C [1, 2, 3, 4, 5, 6, 0] dX8_line_54 (by decide) rfl ?_
              refine v_iload_n C 3 dX8_line_56 rfl rfl ?_
              refine v_gstL C dX8_line_57 (in_t3 (List.mem_of_getElem? (i := 83) rfl) rfl) ?_
              refine v_iload_n C 2 dX8_line_60 rfl rfl ?_
              refine v_lstL (v := (-9999)) C dX8_line_61 (ti_in (show (5 : Int32).toInt = 5 by decide) (by omega) (by omega)) (by decide) ?_
              refine b_icmp_lt C 93 dX8_line_62 (by decide) (rfl : Int32.toInt x = _) (show ((-9999) : Int32).toInt = (-9999) by decide) (fun c59 => ?_) (fun c59 => ?_)
              · refine v_iconst (v := (-1)) C dX8_line_93 (by decide) ?_
                exact v_ret C dX8_line_94 rfl rfl (Or.inl ⟨(by have hq := (show (5 : Int32).toInt = 5 by decide); unfold okLn; omega), by decide, rfl⟩)
              · refine v_iload C 6 dX8_line_65 rfl ?_
                refine b_if_eq C 84 dX8_line_67 (by decide) (show (0 : Int32).toInt = 0 by decide) (fun c60 => ?_) (fun c60 => absurd c60 (by decide))
                refine v_iload_n C 3 dX8_line_84 rfl rfl ?_
                refine v_gstX C dX8_line_85 (in_t3 (List.mem_of_getElem? (i := 85) rfl) rfl) ?_
                refine v_iload_n C 2 dX8_line_88 rfl rfl ?_
                refine v_lstX (v := 9999) C dX8_line_89 (ti_in (show (5 : Int32).toInt = 5 by decide) (by omega) (by omega)) (by decide) ?_
                refine b_icmp_le C 95 dX8_line_90 (by decide) (rfl : Int32.toInt x = _) (show (9999 : Int32).toInt = 9999 by decide) (fun c61 => ?_) (fun c61 => ?_)
                · refine v_aload C 5 dX8_line_95 rfl ?_
                  refine v_geti (v := ip 6) C (9 + 6 * i) dX8_line_97 fX8_181 (by omega) hc0 rfl rfl ?_
                  refine v_bipush (v := 10) C dX8_line_100 (by decide) ?_
                  refine b_icmp_lt C 108 dX8_line_102 (by decide) hsi (show (10 : Int32).toInt = 10 by decide) (fun c62 => ?_) (fun c62 => ?_)
                  · refine v_aload C 5 dX8_line_108 rfl ?_
                    refine v_iload_n C 2 dX8_line_110 rfl rfl ?_
                    refine v_iload_n C 3 dX8_line_111 rfl rfl ?_
                    refine v_iload C 4 dX8_line_112 rfl ?_
                    refine v_cVv C dX8_line_114 lX8_194 mX5_append (9 + 6 * i) (by omega) hc0 (by decide) rfl (c_append l G n ad _ (9 + 6 * i) (by omega) (hPg i hi) hbi.1 hbi.2 5 x y) ⟨by decide, by decide⟩ rfl (Nat.le_of_ble_eq_true rfl) ⟨Nat.zero_le _, Nat.zero_le _⟩ (fun E63 hq64 => ?_)
                    rcases hq64 with ⟨hbad, -, -⟩ | ⟨z, hz1, hz2, hz3, hz4⟩
                    · exact absurd hbad (by omega)
                    obtain ⟨jp, jo, jx, jy, jt, jd, hd0, hdz, -, -, -, -, -, -, -⟩ := id hz3
                    have hdj : (jp 6).toInt = (fl i).toInt + 1 := by rw [hdz, hz2]
                    refine v_aload C 5 dX8_line_117 rfl ?_
                    refine v_geti (v := jp 6) C (9 + 6 * i) dX8_line_119 fX8_181 (by omega) hd0 rfl rfl ?_
                    refine v_iconst (v := 1) C dX8_line_122 (by decide) ?_
                    refine v_isub C dX8_line_123 ?_
                    refine v_top (fun x65 ex65 => ?_)
                    have hx65 : x65.toInt = (((fl i).toInt + 1) - 1) := by rw [ex65]; exact ti_sub hdj (show (1 : Int32).toInt = 1 by decide) (by omega) (by omega)
                    exact v_ret C dX8_line_124 rfl rfl (Or.inr (Or.inr ⟨i, hi, hpi, (by have hq := (show (5 : Int32).toInt = 5 by decide); unfold okLn; omega), by omega, (by rw [hx65]; omega), z, hz2, hz3, hz4⟩))
                  · refine v_bipush (v := (-2)) C dX8_line_105 (by decide) ?_
                    exact v_ret C dX8_line_107 rfl rfl (Or.inr (Or.inl ⟨i, hi, hpi, (by have hq := (show (5 : Int32).toInt = 5 by decide); unfold okLn; omega), by omega, by decide, rfl⟩))
                · refine v_iconst (v := (-1)) C dX8_line_93 (by decide) ?_
                  exact v_ret C dX8_line_94 rfl rfl (Or.inl ⟨(by have hq := (show (5 : Int32).toInt = 5 by decide); unfold okLn; omega), by decide, rfl⟩)
            · refine v_iconst (v := (-1)) C dX8_line_37 (by decide) ?_
              exact v_ret C dX8_line_38 rfl rfl (Or.inl ⟨(by have hq := (show (5 : Int32).toInt = 5 by decide); unfold okLn; omega), by decide, rfl⟩)
          · obtain rfl : op = 6 := ti_ext (by rw [q6]; decide)
            refine v_iload C 4 dX8_line_27 rfl ?_
            refine v_gstY C dX8_line_29 (in_t3 (List.mem_of_getElem? (i := 81) rfl) rfl) ?_
            refine v_iload_n C 2 dX8_line_32 rfl rfl ?_
            refine v_lstY (v := 0) C dX8_line_33 (ti_in (show (6 : Int32).toInt = 6 by decide) (by omega) (by omega)) (by decide) ?_
            refine b_icmp_le C 39 dX8_line_34 (by decide) (rfl : Int32.toInt y = _) (show (0 : Int32).toInt = 0 by decide) (fun c66 => ?_) (fun c66 => ?_)
            · refine v_iload_n C 2 dX8_line_39 rfl rfl ?_
              refine v_iconst (v := 1) C dX8_line_40 (by decide) ?_
              refine b_icmp_eq C 49 dX8_line_41 (by decide) (show (6 : Int32).toInt = 6 by decide) (show (1 : Int32).toInt = 1 by decide) (fun c67 => absurd c67 (by decide)) (fun c67 => ?_)
              refine v_iload_n C 2 dX8_line_44 rfl rfl ?_
              refine v_iconst (v := 4) C dX8_line_45 (by decide) ?_
              refine b_icmp_ne C 53 dX8_line_46 (by decide) (show (6 : Int32).toInt = 6 by decide) (show (4 : Int32).toInt = 4 by decide) (fun c68 => ?_) (fun c68 => absurd c68 (by decide))
              refine v_iconst (v := 0) C dX8_line_53 (by decide) ?_
              refine v_istore (lv' := [(0, .ref (ad 0)), (1, .int p), (2, .int 6), (3, .int x), (4, .int y), (5, .ref (ad (9 + 6 * i))), (6, .int 0)]) C [1, 2, 3, 4, 5, 6, 0] dX8_line_54 (by decide) rfl ?_
              refine v_iload_n C 3 dX8_line_56 rfl rfl ?_
              refine v_gstL C dX8_line_57 (in_t3 (List.mem_of_getElem? (i := 83) rfl) rfl) ?_
              refine v_iload_n C 2 dX8_line_60 rfl rfl ?_
              refine v_lstL (v := (-999)) C dX8_line_61 (ti_in (show (6 : Int32).toInt = 6 by decide) (by omega) (by omega)) (by decide) ?_
              refine b_icmp_lt C 93 dX8_line_62 (by decide) (rfl : Int32.toInt x = _) (show ((-999) : Int32).toInt = (-999) by decide) (fun c69 => ?_) (fun c69 => ?_)
              · refine v_iconst (v := (-1)) C dX8_line_93 (by decide) ?_
                exact v_ret C dX8_line_94 rfl rfl (Or.inl ⟨(by have hq := (show (6 : Int32).toInt = 6 by decide); unfold okLn; omega), by decide, rfl⟩)
              · refine v_iload C 6 dX8_line_65 rfl ?_
                refine b_if_eq C 84 dX8_line_67 (by decide) (show (0 : Int32).toInt = 0 by decide) (fun c70 => ?_) (fun c70 => absurd c70 (by decide))
                refine v_iload_n C 3 dX8_line_84 rfl rfl ?_
                refine v_gstX C dX8_line_85 (in_t3 (List.mem_of_getElem? (i := 85) rfl) rfl) ?_
                refine v_iload_n C 2 dX8_line_88 rfl rfl ?_
                refine v_lstX (v := 999) C dX8_line_89 (ti_in (show (6 : Int32).toInt = 6 by decide) (by omega) (by omega)) (by decide) ?_
                refine b_icmp_le C 95 dX8_line_90 (by decide) (rfl : Int32.toInt x = _) (show (999 : Int32).toInt = 999 by decide) (fun c71 => ?_) (fun c71 => ?_)
                · refine v_aload C 5 dX8_line_95 rfl ?_
                  refine v_geti (v := ip 6) C (9 + 6 * i) dX8_line_97 fX8_181 (by omega) hc0 rfl rfl ?_
                  refine v_bipush (v := 10) C dX8_line_100 (by decide) ?_
                  refine b_icmp_lt C 108 dX8_line_102 (by decide) hsi (show (10 : Int32).toInt = 10 by decide) (fun c72 => ?_) (fun c72 => ?_)
                  · refine v_aload C 5 dX8_line_108 rfl ?_
                    refine v_iload_n C 2 dX8_line_110 rfl rfl ?_
                    refine v_iload_n C 3 dX8_line_111 rfl rfl ?_
                    refine v_iload C 4 dX8_line_112 rfl ?_
                    refine v_cVv C dX8_line_114 lX8_194 mX5_append (9 + 6 * i) (by omega) hc0 (by decide) rfl (c_append l G n ad _ (9 + 6 * i) (by omega) (hPg i hi) hbi.1 hbi.2 6 x y) ⟨by decide, by decide⟩ rfl (Nat.le_of_ble_eq_true rfl) ⟨Nat.zero_le _, Nat.zero_le _⟩ (fun E73 hq74 => ?_)
                    rcases hq74 with ⟨hbad, -, -⟩ | ⟨z, hz1, hz2, hz3, hz4⟩
                    · exact absurd hbad (by omega)
                    obtain ⟨jp, jo, jx, jy, jt, jd, hd0, hdz, -, -, -, -, -, -, -⟩ := id hz3
                    have hdj : (jp 6).toInt = (fl i).toInt + 1 := by rw [hdz, hz2]
                    refine v_aload C 5 dX8_line_117 rfl ?_
                    refine v_geti (v := jp 6) C (9 + 6 * i) dX8_line_119 fX8_181 (by omega) hd0 rfl rfl ?_
                    refine v_iconst (v := 1) C dX8_line_122 (by decide) ?_
                    refine v_isub C dX8_line_123 ?_
                    refine v_top (fun x75 ex75 => ?_)
                    have hx75 : x75.toInt = (((fl i).toInt + 1) - 1) := by rw [ex75]; exact ti_sub hdj (show (1 : Int32).toInt = 1 by decide) (by omega) (by omega)
                    exact v_ret C dX8_line_124 rfl rfl (Or.inr (Or.inr ⟨i, hi, hpi, (by have hq := (show (6 : Int32).toInt = 6 by decide); unfold okLn; omega), by omega, (by rw [hx75]; omega), z, hz2, hz3, hz4⟩))
                  · refine v_bipush (v := (-2)) C dX8_line_105 (by decide) ?_
                    exact v_ret C dX8_line_107 rfl rfl (Or.inr (Or.inl ⟨i, hi, hpi, (by have hq := (show (6 : Int32).toInt = 6 by decide); unfold okLn; omega), by omega, by decide, rfl⟩))
                · refine v_iconst (v := (-1)) C dX8_line_93 (by decide) ?_
                  exact v_ret C dX8_line_94 rfl rfl (Or.inl ⟨(by have hq := (show (6 : Int32).toInt = 6 by decide); unfold okLn; omega), by decide, rfl⟩)
            · refine v_iconst (v := (-1)) C dX8_line_37 (by decide) ?_
              exact v_ret C dX8_line_38 rfl rfl (Or.inl ⟨(by have hq := (show (6 : Int32).toInt = 6 by decide); unfold okLn; omega), by decide, rfl⟩)
          · obtain rfl : op = 7 := ti_ext (by rw [q6]; decide)
            refine v_iload C 4 dX8_line_27 rfl ?_
            refine v_gstY C dX8_line_29 (in_t3 (List.mem_of_getElem? (i := 81) rfl) rfl) ?_
            refine v_iload_n C 2 dX8_line_32 rfl rfl ?_
            refine v_lstY (v := 2) C dX8_line_33 (ti_in (show (7 : Int32).toInt = 7 by decide) (by omega) (by omega)) (by decide) ?_
            refine b_icmp_le C 39 dX8_line_34 (by decide) (rfl : Int32.toInt y = _) (show (2 : Int32).toInt = 2 by decide) (fun c76 => ?_) (fun c76 => ?_)
            · refine v_iload_n C 2 dX8_line_39 rfl rfl ?_
              refine v_iconst (v := 1) C dX8_line_40 (by decide) ?_
              refine b_icmp_eq C 49 dX8_line_41 (by decide) (show (7 : Int32).toInt = 7 by decide) (show (1 : Int32).toInt = 1 by decide) (fun c77 => absurd c77 (by decide)) (fun c77 => ?_)
              refine v_iload_n C 2 dX8_line_44 rfl rfl ?_
              refine v_iconst (v := 4) C dX8_line_45 (by decide) ?_
              refine b_icmp_ne C 53 dX8_line_46 (by decide) (show (7 : Int32).toInt = 7 by decide) (show (4 : Int32).toInt = 4 by decide) (fun c78 => ?_) (fun c78 => absurd c78 (by decide))
              refine v_iconst (v := 0) C dX8_line_53 (by decide) ?_
              refine v_istore (lv' := [(0, .ref (ad 0)), (1, .int p), (2, .int 7), (3, .int x), (4, .int y), (5, .ref (ad (9 + 6 * i))), (6, .int 0)]) C [1, 2, 3, 4, 5, 6, 0] dX8_line_54 (by decide) rfl ?_
              refine v_iload_n C 3 dX8_line_56 rfl rfl ?_
              refine v_gstL C dX8_line_57 (in_t3 (List.mem_of_getElem? (i := 83) rfl) rfl) ?_
              refine v_iload_n C 2 dX8_line_60 rfl rfl ?_
              refine v_lstL (v := (-99)) C dX8_line_61 (ti_in (show (7 : Int32).toInt = 7 by decide) (by omega) (by omega)) (by decide) ?_
              refine b_icmp_lt C 93 dX8_line_62 (by decide) (rfl : Int32.toInt x = _) (show ((-99) : Int32).toInt = (-99) by decide) (fun c79 => ?_) (fun c79 => ?_)
              · refine v_iconst (v := (-1)) C dX8_line_93 (by decide) ?_
                exact v_ret C dX8_line_94 rfl rfl (Or.inl ⟨(by have hq := (show (7 : Int32).toInt = 7 by decide); unfold okLn; omega), by decide, rfl⟩)
              · refine v_iload C 6 dX8_line_65 rfl ?_
                refine b_if_eq C 84 dX8_line_67 (by decide) (show (0 : Int32).toInt = 0 by decide) (fun c80 => ?_) (fun c80 => absurd c80 (by decide))
                refine v_iload_n C 3 dX8_line_84 rfl rfl ?_
                refine v_gstX C dX8_line_85 (in_t3 (List.mem_of_getElem? (i := 85) rfl) rfl) ?_
                refine v_iload_n C 2 dX8_line_88 rfl rfl ?_
                refine v_lstX (v := 99) C dX8_line_89 (ti_in (show (7 : Int32).toInt = 7 by decide) (by omega) (by omega)) (by decide) ?_
                refine b_icmp_le C 95 dX8_line_90 (by decide) (rfl : Int32.toInt x = _) (show (99 : Int32).toInt = 99 by decide) (fun c81 => ?_) (fun c81 => ?_)
                · refine v_aload C 5 dX8_line_95 rfl ?_
                  refine v_geti (v := ip 6) C (9 + 6 * i) dX8_line_97 fX8_181 (by omega) hc0 rfl rfl ?_
                  refine v_bipush (v := 10) C dX8_line_100 (by decide) ?_
                  refine b_icmp_lt C 108 dX8_line_102 (by decide) hsi (show (10 : Int32).toInt = 10 by decide) (fun c82 => ?_) (fun c82 => ?_)
                  · refine v_aload C 5 dX8_line_108 rfl ?_
                    refine v_iload_n C 2 dX8_line_110 rfl rfl ?_
                    refine v_iload_n C 3 dX8_line_111 rfl rfl ?_
                    refine v_iload C 4 dX8_line_112 rfl ?_
                    refine v_cVv C dX8_line_114 lX8_194 mX5_append (9 + 6 * i) (by omega) hc0 (by decide) rfl (c_append l G n ad _ (9 + 6 * i) (by omega) (hPg i hi) hbi.1 hbi.2 7 x y) ⟨by decide, by decide⟩ rfl (Nat.le_of_ble_eq_true rfl) ⟨Nat.zero_le _, Nat.zero_le _⟩ (fun E83 hq84 => ?_)
                    rcases hq84 with ⟨hbad, -, -⟩ | ⟨z, hz1, hz2, hz3, hz4⟩
                    · exact absurd hbad (by omega)
                    obtain ⟨jp, jo, jx, jy, jt, jd, hd0, hdz, -, -, -, -, -, -, -⟩ := id hz3
                    have hdj : (jp 6).toInt = (fl i).toInt + 1 := by rw [hdz, hz2]
                    refine v_aload C 5 dX8_line_117 rfl ?_
                    refine v_geti (v := jp 6) C (9 + 6 * i) dX8_line_119 fX8_181 (by omega) hd0 rfl rfl ?_
                    refine v_iconst (v := 1) C dX8_line_122 (by decide) ?_
                    refine v_isub C dX8_line_123 ?_
                    refine v_top (fun x85 ex85 => ?_)
                    have hx85 : x85.toInt = (((fl i).toInt + 1) - 1) := by rw [ex85]; exact ti_sub hdj (show (1 : Int32).toInt = 1 by decide) (by omega) (by omega)
                    exact v_ret C dX8_line_124 rfl rfl (Or.inr (Or.inr ⟨i, hi, hpi, (by have hq := (show (7 : Int32).toInt = 7 by decide); unfold okLn; omega), by omega, (by rw [hx85]; omega), z, hz2, hz3, hz4⟩))
                  · refine v_bipush (v := (-2)) C dX8_line_105 (by decide) ?_
                    exact v_ret C dX8_line_107 rfl rfl (Or.inr (Or.inl ⟨i, hi, hpi, (by have hq := (show (7 : Int32).toInt = 7 by decide); unfold okLn; omega), by omega, by decide, rfl⟩))
                · refine v_iconst (v := (-1)) C dX8_line_93 (by decide) ?_
                  exact v_ret C dX8_line_94 rfl rfl (Or.inl ⟨(by have hq := (show (7 : Int32).toInt = 7 by decide); unfold okLn; omega), by decide, rfl⟩)
            · refine v_iconst (v := (-1)) C dX8_line_37 (by decide) ?_
              exact v_ret C dX8_line_38 rfl rfl (Or.inl ⟨(by have hq := (show (7 : Int32).toInt = 7 by decide); unfold okLn; omega), by decide, rfl⟩)
          · obtain rfl : op = 8 := ti_ext (by rw [q6]; decide)
            refine v_iload C 4 dX8_line_27 rfl ?_
            refine v_gstY C dX8_line_29 (in_t3 (List.mem_of_getElem? (i := 81) rfl) rfl) ?_
            refine v_iload_n C 2 dX8_line_32 rfl rfl ?_
            refine v_lstY (v := 0) C dX8_line_33 (ti_in (show (8 : Int32).toInt = 8 by decide) (by omega) (by omega)) (by decide) ?_
            refine b_icmp_le C 39 dX8_line_34 (by decide) (rfl : Int32.toInt y = _) (show (0 : Int32).toInt = 0 by decide) (fun c86 => ?_) (fun c86 => ?_)
            · refine v_iload_n C 2 dX8_line_39 rfl rfl ?_
              refine v_iconst (v := 1) C dX8_line_40 (by decide) ?_
              refine b_icmp_eq C 49 dX8_line_41 (by decide) (show (8 : Int32).toInt = 8 by decide) (show (1 : Int32).toInt = 1 by decide) (fun c87 => absurd c87 (by decide)) (fun c87 => ?_)
              refine v_iload_n C 2 dX8_line_44 rfl rfl ?_
              refine v_iconst (v := 4) C dX8_line_45 (by decide) ?_
              refine b_icmp_ne C 53 dX8_line_46 (by decide) (show (8 : Int32).toInt = 8 by decide) (show (4 : Int32).toInt = 4 by decide) (fun c88 => ?_) (fun c88 => absurd c88 (by decide))
              refine v_iconst (v := 0) C dX8_line_53 (by decide) ?_
              refine v_istore (lv' := [(0, .ref (ad 0)), (1, .int p), (2, .int 8), (3, .int x), (4, .int y), (5, .ref (ad (9 + 6 * i))), (6, .int 0)]) C [1, 2, 3, 4, 5, 6, 0] dX8_line_54 (by decide) rfl ?_
              refine v_iload_n C 3 dX8_line_56 rfl rfl ?_
              refine v_gstL C dX8_line_57 (in_t3 (List.mem_of_getElem? (i := 83) rfl) rfl) ?_
              refine v_iload_n C 2 dX8_line_60 rfl rfl ?_
              refine v_lstL (v := 0) C dX8_line_61 (ti_in (show (8 : Int32).toInt = 8 by decide) (by omega) (by omega)) (by decide) ?_
              refine b_icmp_lt C 93 dX8_line_62 (by decide) (rfl : Int32.toInt x = _) (show (0 : Int32).toInt = 0 by decide) (fun c89 => ?_) (fun c89 => ?_)
              · refine v_iconst (v := (-1)) C dX8_line_93 (by decide) ?_
                exact v_ret C dX8_line_94 rfl rfl (Or.inl ⟨(by have hq := (show (8 : Int32).toInt = 8 by decide); unfold okLn; omega), by decide, rfl⟩)
              · refine v_iload C 6 dX8_line_65 rfl ?_
                refine b_if_eq C 84 dX8_line_67 (by decide) (show (0 : Int32).toInt = 0 by decide) (fun c90 => ?_) (fun c90 => absurd c90 (by decide))
                refine v_iload_n C 3 dX8_line_84 rfl rfl ?_
                refine v_gstX C dX8_line_85 (in_t3 (List.mem_of_getElem? (i := 85) rfl) rfl) ?_
                refine v_iload_n C 2 dX8_line_88 rfl rfl ?_
                refine v_lstX (v := 0) C dX8_line_89 (ti_in (show (8 : Int32).toInt = 8 by decide) (by omega) (by omega)) (by decide) ?_
                refine b_icmp_le C 95 dX8_line_90 (by decide) (rfl : Int32.toInt x = _) (show (0 : Int32).toInt = 0 by decide) (fun c91 => ?_) (fun c91 => ?_)
                · refine v_aload C 5 dX8_line_95 rfl ?_
                  refine v_geti (v := ip 6) C (9 + 6 * i) dX8_line_97 fX8_181 (by omega) hc0 rfl rfl ?_
                  refine v_bipush (v := 10) C dX8_line_100 (by decide) ?_
                  refine b_icmp_lt C 108 dX8_line_102 (by decide) hsi (show (10 : Int32).toInt = 10 by decide) (fun c92 => ?_) (fun c92 => ?_)
                  · refine v_aload C 5 dX8_line_108 rfl ?_
                    refine v_iload_n C 2 dX8_line_110 rfl rfl ?_
                    refine v_iload_n C 3 dX8_line_111 rfl rfl ?_
                    refine v_iload C 4 dX8_line_112 rfl ?_
                    refine v_cVv C dX8_line_114 lX8_194 mX5_append (9 + 6 * i) (by omega) hc0 (by decide) rfl (c_append l G n ad _ (9 + 6 * i) (by omega) (hPg i hi) hbi.1 hbi.2 8 x y) ⟨by decide, by decide⟩ rfl (Nat.le_of_ble_eq_true rfl) ⟨Nat.zero_le _, Nat.zero_le _⟩ (fun E93 hq94 => ?_)
                    rcases hq94 with ⟨hbad, -, -⟩ | ⟨z, hz1, hz2, hz3, hz4⟩
                    · exact absurd hbad (by omega)
                    obtain ⟨jp, jo, jx, jy, jt, jd, hd0, hdz, -, -, -, -, -, -, -⟩ := id hz3
                    have hdj : (jp 6).toInt = (fl i).toInt + 1 := by rw [hdz, hz2]
                    refine v_aload C 5 dX8_line_117 rfl ?_
                    refine v_geti (v := jp 6) C (9 + 6 * i) dX8_line_119 fX8_181 (by omega) hd0 rfl rfl ?_
                    refine v_iconst (v := 1) C dX8_line_122 (by decide) ?_
                    refine v_isub C dX8_line_123 ?_
                    refine v_top (fun x95 ex95 => ?_)
                    have hx95 : x95.toInt = (((fl i).toInt + 1) - 1) := by rw [ex95]; exact ti_sub hdj (show (1 : Int32).toInt = 1 by decide) (by omega) (by omega)
                    exact v_ret C dX8_line_124 rfl rfl (Or.inr (Or.inr ⟨i, hi, hpi, (by have hq := (show (8 : Int32).toInt = 8 by decide); unfold okLn; omega), by omega, (by rw [hx95]; omega), z, hz2, hz3, hz4⟩))
                  · refine v_bipush (v := (-2)) C dX8_line_105 (by decide) ?_
                    exact v_ret C dX8_line_107 rfl rfl (Or.inr (Or.inl ⟨i, hi, hpi, (by have hq := (show (8 : Int32).toInt = 8 by decide); unfold okLn; omega), by omega, by decide, rfl⟩))
                · refine v_iconst (v := (-1)) C dX8_line_93 (by decide) ?_
                  exact v_ret C dX8_line_94 rfl rfl (Or.inl ⟨(by have hq := (show (8 : Int32).toInt = 8 by decide); unfold okLn; omega), by decide, rfl⟩)
            · refine v_iconst (v := (-1)) C dX8_line_37 (by decide) ?_
              exact v_ret C dX8_line_38 rfl rfl (Or.inl ⟨(by have hq := (show (8 : Int32).toInt = 8 by decide); unfold okLn; omega), by decide, rfl⟩)
          · obtain rfl : op = 9 := ti_ext (by rw [q6]; decide)
            refine v_iload C 4 dX8_line_27 rfl ?_
            refine v_gstY C dX8_line_29 (in_t3 (List.mem_of_getElem? (i := 81) rfl) rfl) ?_
            refine v_iload_n C 2 dX8_line_32 rfl rfl ?_
            refine v_lstY (v := 0) C dX8_line_33 (ti_in (show (9 : Int32).toInt = 9 by decide) (by omega) (by omega)) (by decide) ?_
            refine b_icmp_le C 39 dX8_line_34 (by decide) (rfl : Int32.toInt y = _) (show (0 : Int32).toInt = 0 by decide) (fun c96 => ?_) (fun c96 => ?_)
            · refine v_iload_n C 2 dX8_line_39 rfl rfl ?_
              refine v_iconst (v := 1) C dX8_line_40 (by decide) ?_
              refine b_icmp_eq C 49 dX8_line_41 (by decide) (show (9 : Int32).toInt = 9 by decide) (show (1 : Int32).toInt = 1 by decide) (fun c97 => absurd c97 (by decide)) (fun c97 => ?_)
              refine v_iload_n C 2 dX8_line_44 rfl rfl ?_
              refine v_iconst (v := 4) C dX8_line_45 (by decide) ?_
              refine b_icmp_ne C 53 dX8_line_46 (by decide) (show (9 : Int32).toInt = 9 by decide) (show (4 : Int32).toInt = 4 by decide) (fun c98 => ?_) (fun c98 => absurd c98 (by decide))
              refine v_iconst (v := 0) C dX8_line_53 (by decide) ?_
              refine v_istore (lv' := [(0, .ref (ad 0)), (1, .int p), (2, .int 9), (3, .int x), (4, .int y), (5, .ref (ad (9 + 6 * i))), (6, .int 0)]) C [1, 2, 3, 4, 5, 6, 0] dX8_line_54 (by decide) rfl ?_
              refine v_iload_n C 3 dX8_line_56 rfl rfl ?_
              refine v_gstL C dX8_line_57 (in_t3 (List.mem_of_getElem? (i := 83) rfl) rfl) ?_
              refine v_iload_n C 2 dX8_line_60 rfl rfl ?_
              refine v_lstL (v := 0) C dX8_line_61 (ti_in (show (9 : Int32).toInt = 9 by decide) (by omega) (by omega)) (by decide) ?_
              refine b_icmp_lt C 93 dX8_line_62 (by decide) (rfl : Int32.toInt x = _) (show (0 : Int32).toInt = 0 by decide) (fun c99 => ?_) (fun c99 => ?_)
              · refine v_iconst (v := (-1)) C dX8_line_93 (by decide) ?_
                exact v_ret C dX8_line_94 rfl rfl (Or.inl ⟨(by have hq := (show (9 : Int32).toInt = 9 by decide); unfold okLn; omega), by decide, rfl⟩)
              · refine v_iload C 6 dX8_line_65 rfl ?_
                refine b_if_eq C 84 dX8_line_67 (by decide) (show (0 : Int32).toInt = 0 by decide) (fun c100 => ?_) (fun c100 => absurd c100 (by decide))
                refine v_iload_n C 3 dX8_line_84 rfl rfl ?_
                refine v_gstX C dX8_line_85 (in_t3 (List.mem_of_getElem? (i := 85) rfl) rfl) ?_
                refine v_iload_n C 2 dX8_line_88 rfl rfl ?_
                refine v_lstX (v := 0) C dX8_line_89 (ti_in (show (9 : Int32).toInt = 9 by decide) (by omega) (by omega)) (by decide) ?_
                refine b_icmp_le C 95 dX8_line_90 (by decide) (rfl : Int32.toInt x = _) (show (0 : Int32).toInt = 0 by decide) (fun c101 => ?_) (fun c101 => ?_)
                · refine v_aload C 5 dX8_line_95 rfl ?_
                  refine v_geti (v := ip 6) C (9 + 6 * i) dX8_line_97 fX8_181 (by omega) hc0 rfl rfl ?_
                  refine v_bipush (v := 10) C dX8_line_100 (by decide) ?_
                  refine b_icmp_lt C 108 dX8_line_102 (by decide) hsi (show (10 : Int32).toInt = 10 by decide) (fun c102 => ?_) (fun c102 => ?_)
                  · refine v_aload C 5 dX8_line_108 rfl ?_
                    refine v_iload_n C 2 dX8_line_110 rfl rfl ?_
                    refine v_iload_n C 3 dX8_line_111 rfl rfl ?_
                    refine v_iload C 4 dX8_line_112 rfl ?_
                    refine v_cVv C dX8_line_114 lX8_194 mX5_append (9 + 6 * i) (by omega) hc0 (by decide) rfl (c_append l G n ad _ (9 + 6 * i) (by omega) (hPg i hi) hbi.1 hbi.2 9 x y) ⟨by decide, by decide⟩ rfl (Nat.le_of_ble_eq_true rfl) ⟨Nat.zero_le _, Nat.zero_le _⟩ (fun E103 hq104 => ?_)
                    rcases hq104 with ⟨hbad, -, -⟩ | ⟨z, hz1, hz2, hz3, hz4⟩
                    · exact absurd hbad (by omega)
                    obtain ⟨jp, jo, jx, jy, jt, jd, hd0, hdz, -, -, -, -, -, -, -⟩ := id hz3
                    have hdj : (jp 6).toInt = (fl i).toInt + 1 := by rw [hdz, hz2]
                    refine v_aload C 5 dX8_line_117 rfl ?_
                    refine v_geti (v := jp 6) C (9 + 6 * i) dX8_line_119 fX8_181 (by omega) hd0 rfl rfl ?_
                    refine v_iconst (v := 1) C dX8_line_122 (by decide) ?_
                    refine v_isub C dX8_line_123 ?_
                    refine v_top (fun x105 ex105 => ?_)
                    have hx105 : x105.toInt = (((fl i).toInt + 1) - 1) := by rw [ex105]; exact ti_sub hdj (show (1 : Int32).toInt = 1 by decide) (by omega) (by omega)
                    exact v_ret C dX8_line_124 rfl rfl (Or.inr (Or.inr ⟨i, hi, hpi, (by have hq := (show (9 : Int32).toInt = 9 by decide); unfold okLn; omega), by omega, (by rw [hx105]; omega), z, hz2, hz3, hz4⟩))
                  · refine v_bipush (v := (-2)) C dX8_line_105 (by decide) ?_
                    exact v_ret C dX8_line_107 rfl rfl (Or.inr (Or.inl ⟨i, hi, hpi, (by have hq := (show (9 : Int32).toInt = 9 by decide); unfold okLn; omega), by omega, by decide, rfl⟩))
                · refine v_iconst (v := (-1)) C dX8_line_93 (by decide) ?_
                  exact v_ret C dX8_line_94 rfl rfl (Or.inl ⟨(by have hq := (show (9 : Int32).toInt = 9 by decide); unfold okLn; omega), by decide, rfl⟩)
            · refine v_iconst (v := (-1)) C dX8_line_37 (by decide) ?_
              exact v_ret C dX8_line_38 rfl rfl (Or.inl ⟨(by have hq := (show (9 : Int32).toInt = 9 by decide); unfold okLn; omega), by decide, rfl⟩)
          · obtain rfl : op = 10 := ti_ext (by rw [q6]; decide)
            refine v_iload C 4 dX8_line_27 rfl ?_
            refine v_gstY C dX8_line_29 (in_t3 (List.mem_of_getElem? (i := 81) rfl) rfl) ?_
            refine v_iload_n C 2 dX8_line_32 rfl rfl ?_
            refine v_lstY (v := 0) C dX8_line_33 (ti_in (show (10 : Int32).toInt = 10 by decide) (by omega) (by omega)) (by decide) ?_
            refine b_icmp_le C 39 dX8_line_34 (by decide) (rfl : Int32.toInt y = _) (show (0 : Int32).toInt = 0 by decide) (fun c106 => ?_) (fun c106 => ?_)
            · refine v_iload_n C 2 dX8_line_39 rfl rfl ?_
              refine v_iconst (v := 1) C dX8_line_40 (by decide) ?_
              refine b_icmp_eq C 49 dX8_line_41 (by decide) (show (10 : Int32).toInt = 10 by decide) (show (1 : Int32).toInt = 1 by decide) (fun c107 => absurd c107 (by decide)) (fun c107 => ?_)
              refine v_iload_n C 2 dX8_line_44 rfl rfl ?_
              refine v_iconst (v := 4) C dX8_line_45 (by decide) ?_
              refine b_icmp_ne C 53 dX8_line_46 (by decide) (show (10 : Int32).toInt = 10 by decide) (show (4 : Int32).toInt = 4 by decide) (fun c108 => ?_) (fun c108 => absurd c108 (by decide))
              refine v_iconst (v := 0) C dX8_line_53 (by decide) ?_
              refine v_istore (lv' := [(0, .ref (ad 0)), (1, .int p), (2, .int 10), (3, .int x), (4, .int y), (5, .ref (ad (9 + 6 * i))), (6, .int 0)]) C [1, 2, 3, 4, 5, 6, 0] dX8_line_54 (by decide) rfl ?_
              refine v_iload_n C 3 dX8_line_56 rfl rfl ?_
              refine v_gstL C dX8_line_57 (in_t3 (List.mem_of_getElem? (i := 83) rfl) rfl) ?_
              refine v_iload_n C 2 dX8_line_60 rfl rfl ?_
              refine v_lstL (v := 0) C dX8_line_61 (ti_in (show (10 : Int32).toInt = 10 by decide) (by omega) (by omega)) (by decide) ?_
              refine b_icmp_lt C 93 dX8_line_62 (by decide) (rfl : Int32.toInt x = _) (show (0 : Int32).toInt = 0 by decide) (fun c109 => ?_) (fun c109 => ?_)
              · refine v_iconst (v := (-1)) C dX8_line_93 (by decide) ?_
                exact v_ret C dX8_line_94 rfl rfl (Or.inl ⟨(by have hq := (show (10 : Int32).toInt = 10 by decide); unfold okLn; omega), by decide, rfl⟩)
              · refine v_iload C 6 dX8_line_65 rfl ?_
                refine b_if_eq C 84 dX8_line_67 (by decide) (show (0 : Int32).toInt = 0 by decide) (fun c110 => ?_) (fun c110 => absurd c110 (by decide))
                refine v_iload_n C 3 dX8_line_84 rfl rfl ?_
                refine v_gstX C dX8_line_85 (in_t3 (List.mem_of_getElem? (i := 85) rfl) rfl) ?_
                refine v_iload_n C 2 dX8_line_88 rfl rfl ?_
                refine v_lstX (v := 0) C dX8_line_89 (ti_in (show (10 : Int32).toInt = 10 by decide) (by omega) (by omega)) (by decide) ?_
                refine b_icmp_le C 95 dX8_line_90 (by decide) (rfl : Int32.toInt x = _) (show (0 : Int32).toInt = 0 by decide) (fun c111 => ?_) (fun c111 => ?_)
                · refine v_aload C 5 dX8_line_95 rfl ?_
                  refine v_geti (v := ip 6) C (9 + 6 * i) dX8_line_97 fX8_181 (by omega) hc0 rfl rfl ?_
                  refine v_bipush (v := 10) C dX8_line_100 (by decide) ?_
                  refine b_icmp_lt C 108 dX8_line_102 (by decide) hsi (show (10 : Int32).toInt = 10 by decide) (fun c112 => ?_) (fun c112 => ?_)
                  · refine v_aload C 5 dX8_line_108 rfl ?_
                    refine v_iload_n C 2 dX8_line_110 rfl rfl ?_
                    refine v_iload_n C 3 dX8_line_111 rfl rfl ?_
                    refine v_iload C 4 dX8_line_112 rfl ?_
                    refine v_cVv C dX8_line_114 lX8_194 mX5_append (9 + 6 * i) (by omega) hc0 (by decide) rfl (c_append l G n ad _ (9 + 6 * i) (by omega) (hPg i hi) hbi.1 hbi.2 10 x y) ⟨by decide, by decide⟩ rfl (Nat.le_of_ble_eq_true rfl) ⟨Nat.zero_le _, Nat.zero_le _⟩ (fun E113 hq114 => ?_)
                    rcases hq114 with ⟨hbad, -, -⟩ | ⟨z, hz1, hz2, hz3, hz4⟩
                    · exact absurd hbad (by omega)
                    obtain ⟨jp, jo, jx, jy, jt, jd, hd0, hdz, -, -, -, -, -, -, -⟩ := id hz3
                    have hdj : (jp 6).toInt = (fl i).toInt + 1 := by rw [hdz, hz2]
                    refine v_aload C 5 dX8_line_117 rfl ?_
                    refine v_geti (v := jp 6) C (9 + 6 * i) dX8_line_119 fX8_181 (by omega) hd0 rfl rfl ?_
                    refine v_iconst (v := 1) C dX8_line_122 (by decide) ?_
                    refine v_isub C dX8_line_123 ?_
                    refine v_top (fun x115 ex115 => ?_)
                    have hx115 : x115.toInt = (((fl i).toInt + 1) - 1) := by rw [ex115]; exact ti_sub hdj (show (1 : Int32).toInt = 1 by decide) (by omega) (by omega)
                    exact v_ret C dX8_line_124 rfl rfl (Or.inr (Or.inr ⟨i, hi, hpi, (by have hq := (show (10 : Int32).toInt = 10 by decide); unfold okLn; omega), by omega, (by rw [hx115]; omega), z, hz2, hz3, hz4⟩))
                  · refine v_bipush (v := (-2)) C dX8_line_105 (by decide) ?_
                    exact v_ret C dX8_line_107 rfl rfl (Or.inr (Or.inl ⟨i, hi, hpi, (by have hq := (show (10 : Int32).toInt = 10 by decide); unfold okLn; omega), by omega, by decide, rfl⟩))
                · refine v_iconst (v := (-1)) C dX8_line_93 (by decide) ?_
                  exact v_ret C dX8_line_94 rfl rfl (Or.inl ⟨(by have hq := (show (10 : Int32).toInt = 10 by decide); unfold okLn; omega), by decide, rfl⟩)
            · refine v_iconst (v := (-1)) C dX8_line_37 (by decide) ?_
              exact v_ret C dX8_line_38 rfl rfl (Or.inl ⟨(by have hq := (show (10 : Int32).toInt = 10 by decide); unfold okLn; omega), by decide, rfl⟩)
          · obtain rfl : op = 11 := ti_ext (by rw [q6]; decide)
            refine v_iload C 4 dX8_line_27 rfl ?_
            refine v_gstY C dX8_line_29 (in_t3 (List.mem_of_getElem? (i := 81) rfl) rfl) ?_
            refine v_iload_n C 2 dX8_line_32 rfl rfl ?_
            refine v_lstY (v := 0) C dX8_line_33 (ti_in (show (11 : Int32).toInt = 11 by decide) (by omega) (by omega)) (by decide) ?_
            refine b_icmp_le C 39 dX8_line_34 (by decide) (rfl : Int32.toInt y = _) (show (0 : Int32).toInt = 0 by decide) (fun c116 => ?_) (fun c116 => ?_)
            · refine v_iload_n C 2 dX8_line_39 rfl rfl ?_
              refine v_iconst (v := 1) C dX8_line_40 (by decide) ?_
              refine b_icmp_eq C 49 dX8_line_41 (by decide) (show (11 : Int32).toInt = 11 by decide) (show (1 : Int32).toInt = 1 by decide) (fun c117 => absurd c117 (by decide)) (fun c117 => ?_)
              refine v_iload_n C 2 dX8_line_44 rfl rfl ?_
              refine v_iconst (v := 4) C dX8_line_45 (by decide) ?_
              refine b_icmp_ne C 53 dX8_line_46 (by decide) (show (11 : Int32).toInt = 11 by decide) (show (4 : Int32).toInt = 4 by decide) (fun c118 => ?_) (fun c118 => absurd c118 (by decide))
              refine v_iconst (v := 0) C dX8_line_53 (by decide) ?_
              refine v_istore (lv' := [(0, .ref (ad 0)), (1, .int p), (2, .int 11), (3, .int x), (4, .int y), (5, .ref (ad (9 + 6 * i))), (6, .int 0)]) C [1, 2, 3, 4, 5, 6, 0] dX8_line_54 (by decide) rfl ?_
              refine v_iload_n C 3 dX8_line_56 rfl rfl ?_
              refine v_gstL C dX8_line_57 (in_t3 (List.mem_of_getElem? (i := 83) rfl) rfl) ?_
              refine v_iload_n C 2 dX8_line_60 rfl rfl ?_
              refine v_lstL (v := 0) C dX8_line_61 (ti_in (show (11 : Int32).toInt = 11 by decide) (by omega) (by omega)) (by decide) ?_
              refine b_icmp_lt C 93 dX8_line_62 (by decide) (rfl : Int32.toInt x = _) (show (0 : Int32).toInt = 0 by decide) (fun c119 => ?_) (fun c119 => ?_)
              · refine v_iconst (v := (-1)) C dX8_line_93 (by decide) ?_
                exact v_ret C dX8_line_94 rfl rfl (Or.inl ⟨(by have hq := (show (11 : Int32).toInt = 11 by decide); unfold okLn; omega), by decide, rfl⟩)
              · refine v_iload C 6 dX8_line_65 rfl ?_
                refine b_if_eq C 84 dX8_line_67 (by decide) (show (0 : Int32).toInt = 0 by decide) (fun c120 => ?_) (fun c120 => absurd c120 (by decide))
                refine v_iload_n C 3 dX8_line_84 rfl rfl ?_
                refine v_gstX C dX8_line_85 (in_t3 (List.mem_of_getElem? (i := 85) rfl) rfl) ?_
                refine v_iload_n C 2 dX8_line_88 rfl rfl ?_
                refine v_lstX (v := 0) C dX8_line_89 (ti_in (show (11 : Int32).toInt = 11 by decide) (by omega) (by omega)) (by decide) ?_
                refine b_icmp_le C 95 dX8_line_90 (by decide) (rfl : Int32.toInt x = _) (show (0 : Int32).toInt = 0 by decide) (fun c121 => ?_) (fun c121 => ?_)
                · refine v_aload C 5 dX8_line_95 rfl ?_
                  refine v_geti (v := ip 6) C (9 + 6 * i) dX8_line_97 fX8_181 (by omega) hc0 rfl rfl ?_
                  refine v_bipush (v := 10) C dX8_line_100 (by decide) ?_
                  refine b_icmp_lt C 108 dX8_line_102 (by decide) hsi (show (10 : Int32).toInt = 10 by decide) (fun c122 => ?_) (fun c122 => ?_)
                  · refine v_aload C 5 dX8_line_108 rfl ?_
                    refine v_iload_n C 2 dX8_line_110 rfl rfl ?_
                    refine v_iload_n C 3 dX8_line_111 rfl rfl ?_
                    refine v_iload C 4 dX8_line_112 rfl ?_
                    refine v_cVv C dX8_line_114 lX8_194 mX5_append (9 + 6 * i) (by omega) hc0 (by decide) rfl (c_append l G n ad _ (9 + 6 * i) (by omega) (hPg i hi) hbi.1 hbi.2 11 x y) ⟨by decide, by decide⟩ rfl (Nat.le_of_ble_eq_true rfl) ⟨Nat.zero_le _, Nat.zero_le _⟩ (fun E123 hq124 => ?_)
                    rcases hq124 with ⟨hbad, -, -⟩ | ⟨z, hz1, hz2, hz3, hz4⟩
                    · exact absurd hbad (by omega)
                    obtain ⟨jp, jo, jx, jy, jt, jd, hd0, hdz, -, -, -, -, -, -, -⟩ := id hz3
                    have hdj : (jp 6).toInt = (fl i).toInt + 1 := by rw [hdz, hz2]
                    refine v_aload C 5 dX8_line_117 rfl ?_
                    refine v_geti (v := jp 6) C (9 + 6 * i) dX8_line_119 fX8_181 (by omega) hd0 rfl rfl ?_
                    refine v_iconst (v := 1) C dX8_line_122 (by decide) ?_
                    refine v_isub C dX8_line_123 ?_
                    refine v_top (fun x125 ex125 => ?_)
                    have hx125 : x125.toInt = (((fl i).toInt + 1) - 1) := by rw [ex125]; exact ti_sub hdj (show (1 : Int32).toInt = 1 by decide) (by omega) (by omega)
                    exact v_ret C dX8_line_124 rfl rfl (Or.inr (Or.inr ⟨i, hi, hpi, (by have hq := (show (11 : Int32).toInt = 11 by decide); unfold okLn; omega), by omega, (by rw [hx125]; omega), z, hz2, hz3, hz4⟩))
                  · refine v_bipush (v := (-2)) C dX8_line_105 (by decide) ?_
                    exact v_ret C dX8_line_107 rfl rfl (Or.inr (Or.inl ⟨i, hi, hpi, (by have hq := (show (11 : Int32).toInt = 11 by decide); unfold okLn; omega), by omega, by decide, rfl⟩))
                · refine v_iconst (v := (-1)) C dX8_line_93 (by decide) ?_
                  exact v_ret C dX8_line_94 rfl rfl (Or.inl ⟨(by have hq := (show (11 : Int32).toInt = 11 by decide); unfold okLn; omega), by decide, rfl⟩)
            · refine v_iconst (v := (-1)) C dX8_line_37 (by decide) ?_
              exact v_ret C dX8_line_38 rfl rfl (Or.inl ⟨(by have hq := (show (11 : Int32).toInt = 11 by decide); unfold okLn; omega), by decide, rfl⟩)

def LNS (fl : Nat → Int32) : Int := (fl 0).toInt + (fl 1).toInt + (fl 2).toInt + (fl 3).toInt + (fl 4).toInt + (fl 5).toInt
def CNf (k : Int) (fl : Nat → Int32) (td ys w : Int) : Int := if w = 0 then k else if w = 1 then LNS fl else if w = 2 then td else if w = 3 then ys else -1
set_option maxRecDepth 20000 in
theorem g_allLines (l : Launch) (G : Gl) (n : Nat) (ad : Nat → Nat) (E : Nat → va_E) (hN : 68 ≤ n) {io iz : Nat → Int32} (hE0 : E 0 = ob 8 (rfs ad [1, 6, 8, 48, 45, 51]) io) (hE6 : E 6 = ob 7 (rfs ad [7]) iz) {fp : Nat → Option Nat} (hE8 : E 8 = aQ G 4 6 fp) (hfp : ∀ i, i < 6 → fp i = some (ad (9 + 6 * i))) {fl : Nat → Int32} (hPg : ∀ i, i < 6 → PgW G ad (9 + 6 * i) E (fl i)) (hbl : ∀ i, 0 ≤ (fl i).toInt ∧ (fl i).toInt ≤ 10)  : CtI l G yX8_allLines cX8_allLines 4 .int 0 0 n ad E [.ref (ad 0)] (fun r E' => (r.toInt = LNS fl) ∧ E = E') := by
  refine CtI.of (by decide) (Nat.le_of_ble_eq_true rfl) (fun X A C => ?_)
  refine v_sub (lv' := [(0, .ref (ad 0))]) [0] rfl ?_
  refine v_iconst (v := 0) C dX8_allLines_0 (by decide) ?_
  refine v_istore_n (lv' := [(0, .ref (ad 0)), (1, .int 0)]) C [1, 0] dX8_allLines_1 rfl (by decide) rfl ?_
  refine v_iconst (v := 0) C dX8_allLines_2 (by decide) ?_
  refine v_istore_n (lv' := [(0, .ref (ad 0)), (1, .int 0), (2, .int 0)]) C [1, 2, 0] dX8_allLines_3 rfl (by decide) rfl ?_
  refine v_iload_n C 2 dX8_allLines_4 rfl rfl ?_
  refine v_bipush (v := 6) C dX8_allLines_5 (by decide) ?_
  refine b_icmp_ge C 38 dX8_allLines_7 (by decide) (show (0 : Int32).toInt = 0 by decide) (show (6 : Int32).toInt = 6 by decide) (fun c1 => absurd c1 (by decide)) (fun c1 => ?_)
  refine v_aload_n C 0 dX8_allLines_10 rfl rfl ?_
  refine v_getr C 0 dX8_allLines_11 fX8_25 (by omega) hE0 rfl rfl ?_
  refine v_iload_n C 2 dX8_allLines_14 rfl rfl ?_
  obtain ⟨ip0, po0, px0, py0, tp0, kd0, hc00, hsz0, -, -, -, -, -, -, -⟩ := id (hPg 0 (by decide))
  have hbi0 := hbl 0
  have hsi0 : (ip0 6).toInt = (fl 0).toInt := by rw [hsz0]
  refine v_aldP (v := some (ad (9 + 6 * 0))) C 8 dX8_allLines_15 (by omega) hE8 (ti_in (show (0 : Int32).toInt = 0 by decide) (by omega) (by omega)) ((congrArg fp (show Int32.toNatClampNeg 0 = 0 by decide)).trans (hfp 0 (by decide))) ?_
  refine v_astore_n (lv' := [(0, .ref (ad 0)), (1, .int 0), (2, .int 0), (3, .ref (ad (9 + 6 * 0)))]) C [1, 2, 3, 0] dX8_allLines_16 rfl (by decide) rfl ?_
  refine v_iload_n C 1 dX8_allLines_17 rfl rfl ?_
  refine v_aload_n C 3 dX8_allLines_18 rfl rfl ?_
  refine v_ifnonnull C 26 dX8_allLines_19 (by decide) ?_
  refine v_aload_n C 3 dX8_allLines_26 rfl rfl ?_
  refine v_geti (v := ip0 6) C (9 + 6 * 0) dX8_allLines_27 fX8_181 (by omega) hc00 rfl rfl ?_
  refine v_iadd C dX8_allLines_30 ?_
  refine v_top (fun x2 ex2 => ?_)
  have hx2 : x2.toInt = (0 + (fl 0).toInt) := by rw [ex2]; exact ti_add (show (0 : Int32).toInt = 0 by decide) hsi0 (by omega) (by omega)
  refine v_istore_n (lv' := [(0, .ref (ad 0)), (1, .int x2), (2, .int 0), (3, .ref (ad (9 + 6 * 0)))]) C [1, 0, 2, 3] dX8_allLines_31 rfl (by decide) rfl ?_
  refine v_iinc (v := 1) (lv' := [(0, .ref (ad 0)), (1, .int x2), (2, .int 1), (3, .ref (ad (9 + 6 * 0)))]) C 2 [1, 2, 0, 3] dX8_allLines_32 rfl (by decide) (by decide) rfl ?_
  refine v_goto C 4 dX8_allLines_35 (by decide) ?_
  refine v_iload_n C 2 dX8_allLines_4 rfl rfl ?_
  refine v_bipush (v := 6) C dX8_allLines_5 (by decide) ?_
  refine b_icmp_ge C 38 dX8_allLines_7 (by decide) (show (1 : Int32).toInt = 1 by decide) (show (6 : Int32).toInt = 6 by decide) (fun c3 => absurd c3 (by decide)) (fun c3 => ?_)
  refine v_aload_n C 0 dX8_allLines_10 rfl rfl ?_
  refine v_getr C 0 dX8_allLines_11 fX8_25 (by omega) hE0 rfl rfl ?_
  refine v_iload_n C 2 dX8_allLines_14 rfl rfl ?_
  obtain ⟨ip1, po1, px1, py1, tp1, kd1, hc01, hsz1, -, -, -, -, -, -, -⟩ := id (hPg 1 (by decide))
  have hbi1 := hbl 1
  have hsi1 : (ip1 6).toInt = (fl 1).toInt := by rw [hsz1]
  refine v_aldP (v := some (ad (9 + 6 * 1))) C 8 dX8_allLines_15 (by omega) hE8 (ti_in (show (1 : Int32).toInt = 1 by decide) (by omega) (by omega)) ((congrArg fp (show Int32.toNatClampNeg 1 = 1 by decide)).trans (hfp 1 (by decide))) ?_
  refine v_astore_n (lv' := [(0, .ref (ad 0)), (1, .int x2), (2, .int 1), (3, .ref (ad (9 + 6 * 1)))]) C [1, 2, 3, 0] dX8_allLines_16 rfl (by decide) rfl ?_
  refine v_iload_n C 1 dX8_allLines_17 rfl rfl ?_
  refine v_aload_n C 3 dX8_allLines_18 rfl rfl ?_
  refine v_ifnonnull C 26 dX8_allLines_19 (by decide) ?_
  refine v_aload_n C 3 dX8_allLines_26 rfl rfl ?_
  refine v_geti (v := ip1 6) C (9 + 6 * 1) dX8_allLines_27 fX8_181 (by omega) hc01 rfl rfl ?_
  refine v_iadd C dX8_allLines_30 ?_
  refine v_top (fun x4 ex4 => ?_)
  have hx4 : x4.toInt = ((0 + (fl 0).toInt) + (fl 1).toInt) := by rw [ex4]; exact ti_add hx2 hsi1 (by omega) (by omega)
  refine v_istore_n (lv' := [(0, .ref (ad 0)), (1, .int x4), (2, .int 1), (3, .ref (ad (9 + 6 * 1)))]) C [1, 0, 2, 3] dX8_allLines_31 rfl (by decide) rfl ?_
  refine v_iinc (v := 2) (lv' := [(0, .ref (ad 0)), (1, .int x4), (2, .int 2), (3, .ref (ad (9 + 6 * 1)))]) C 2 [1, 2, 0, 3] dX8_allLines_32 rfl (by decide) (by decide) rfl ?_
  refine v_goto C 4 dX8_allLines_35 (by decide) ?_
  refine v_iload_n C 2 dX8_allLines_4 rfl rfl ?_
  refine v_bipush (v := 6) C dX8_allLines_5 (by decide) ?_
  refine b_icmp_ge C 38 dX8_allLines_7 (by decide) (show (2 : Int32).toInt = 2 by decide) (show (6 : Int32).toInt = 6 by decide) (fun c5 => absurd c5 (by decide)) (fun c5 => ?_)
  refine v_aload_n C 0 dX8_allLines_10 rfl rfl ?_
  refine v_getr C 0 dX8_allLines_11 fX8_25 (by omega) hE0 rfl rfl ?_
  refine v_iload_n C 2 dX8_allLines_14 rfl rfl ?_
  obtain ⟨ip2, po2, px2, py2, tp2, kd2, hc02, hsz2, -, -, -, -, -, -, -⟩ := id (hPg 2 (by decide))
  have hbi2 := hbl 2
  have hsi2 : (ip2 6).toInt = (fl 2).toInt := by rw [hsz2]
  refine v_aldP (v := some (ad (9 + 6 * 2))) C 8 dX8_allLines_15 (by omega) hE8 (ti_in (show (2 : Int32).toInt = 2 by decide) (by omega) (by omega)) ((congrArg fp (show Int32.toNatClampNeg 2 = 2 by decide)).trans (hfp 2 (by decide))) ?_
  refine v_astore_n (lv' := [(0, .ref (ad 0)), (1, .int x4), (2, .int 2), (3, .ref (ad (9 + 6 * 2)))]) C [1, 2, 3, 0] dX8_allLines_16 rfl (by decide) rfl ?_
  refine v_iload_n C 1 dX8_allLines_17 rfl rfl ?_
  refine v_aload_n C 3 dX8_allLines_18 rfl rfl ?_
  refine v_ifnonnull C 26 dX8_allLines_19 (by decide) ?_
  refine v_aload_n C 3 dX8_allLines_26 rfl rfl ?_
  refine v_geti (v := ip2 6) C (9 + 6 * 2) dX8_allLines_27 fX8_181 (by omega) hc02 rfl rfl ?_
  refine v_iadd C dX8_allLines_30 ?_
  refine v_top (fun x6 ex6 => ?_)
  have hx6 : x6.toInt = (((0 + (fl 0).toInt) + (fl 1).toInt) + (fl 2).toInt) := by rw [ex6]; exact ti_add hx4 hsi2 (by omega) (by omega)
  refine v_istore_n (lv' := [(0, .ref (ad 0)), (1, .int x6), (2, .int 2), (3, .ref (ad (9 + 6 * 2)))]) C [1, 0, 2, 3] dX8_allLines_31 rfl (by decide) rfl ?_
  refine v_iinc (v := 3) (lv' := [(0, .ref (ad 0)), (1, .int x6), (2, .int 3), (3, .ref (ad (9 + 6 * 2)))]) C 2 [1, 2, 0, 3] dX8_allLines_32 rfl (by decide) (by decide) rfl ?_
  refine v_goto C 4 dX8_allLines_35 (by decide) ?_
  refine v_iload_n C 2 dX8_allLines_4 rfl rfl ?_
  refine v_bipush (v := 6) C dX8_allLines_5 (by decide) ?_
  refine b_icmp_ge C 38 dX8_allLines_7 (by decide) (show (3 : Int32).toInt = 3 by decide) (show (6 : Int32).toInt = 6 by decide) (fun c7 => absurd c7 (by decide)) (fun c7 => ?_)
  refine v_aload_n C 0 dX8_allLines_10 rfl rfl ?_
  refine v_getr C 0 dX8_allLines_11 fX8_25 (by omega) hE0 rfl rfl ?_
  refine v_iload_n C 2 dX8_allLines_14 rfl rfl ?_
  obtain ⟨ip3, po3, px3, py3, tp3, kd3, hc03, hsz3, -, -, -, -, -, -, -⟩ := id (hPg 3 (by decide))
  have hbi3 := hbl 3
  have hsi3 : (ip3 6).toInt = (fl 3).toInt := by rw [hsz3]
  refine v_aldP (v := some (ad (9 + 6 * 3))) C 8 dX8_allLines_15 (by omega) hE8 (ti_in (show (3 : Int32).toInt = 3 by decide) (by omega) (by omega)) ((congrArg fp (show Int32.toNatClampNeg 3 = 3 by decide)).trans (hfp 3 (by decide))) ?_
  refine v_astore_n (lv' := [(0, .ref (ad 0)), (1, .int x6), (2, .int 3), (3, .ref (ad (9 + 6 * 3)))]) C [1, 2, 3, 0] dX8_allLines_16 rfl (by decide) rfl ?_
  refine v_iload_n C 1 dX8_allLines_17 rfl rfl ?_
  refine v_aload_n C 3 dX8_allLines_18 rfl rfl ?_
  refine v_ifnonnull C 26 dX8_allLines_19 (by decide) ?_
  refine v_aload_n C 3 dX8_allLines_26 rfl rfl ?_
  refine v_geti (v := ip3 6) C (9 + 6 * 3) dX8_allLines_27 fX8_181 (by omega) hc03 rfl rfl ?_
  refine v_iadd C dX8_allLines_30 ?_
  refine v_top (fun x8 ex8 => ?_)
  have hx8 : x8.toInt = ((((0 + (fl 0).toInt) + (fl 1).toInt) + (fl 2).toInt) + (fl 3).toInt) := by rw [ex8]; exact ti_add hx6 hsi3 (by omega) (by omega)
  refine v_istore_n (lv' := [(0, .ref (ad 0)), (1, .int x8), (2, .int 3), (3, .ref (ad (9 + 6 * 3)))]) C [1, 0, 2, 3] dX8_allLines_31 rfl (by decide) rfl ?_
  refine v_iinc (v := 4) (lv' := [(0, .ref (ad 0)), (1, .int x8), (2, .int 4), (3, .ref (ad (9 + 6 * 3)))]) C 2 [1, 2, 0, 3] dX8_allLines_32 rfl (by decide) (by decide) rfl ?_
  refine v_goto C 4 dX8_allLines_35 (by decide) ?_
  refine v_iload_n C 2 dX8_allLines_4 rfl rfl ?_
  refine v_bipush (v := 6) C dX8_allLines_5 (by decide) ?_
  refine b_icmp_ge C 38 dX8_allLines_7 (by decide) (show (4 : Int32).toInt = 4 by decide) (show (6 : Int32).toInt = 6 by decide) (fun c9 => absurd c9 (by decide)) (fun c9 => ?_)
  refine v_aload_n C 0 dX8_allLines_10 rfl rfl ?_
  refine v_getr C 0 dX8_allLines_11 fX8_25 (by omega) hE0 rfl rfl ?_
  refine v_iload_n C 2 dX8_allLines_14 rfl rfl ?_
  obtain ⟨ip4, po4, px4, py4, tp4, kd4, hc04, hsz4, -, -, -, -, -, -, -⟩ := id (hPg 4 (by decide))
  have hbi4 := hbl 4
  have hsi4 : (ip4 6).toInt = (fl 4).toInt := by rw [hsz4]
  refine v_aldP (v := some (ad (9 + 6 * 4))) C 8 dX8_allLines_15 (by omega) hE8 (ti_in (show (4 : Int32).toInt = 4 by decide) (by omega) (by omega)) ((congrArg fp (show Int32.toNatClampNeg 4 = 4 by decide)).trans (hfp 4 (by decide))) ?_
  refine v_astore_n (lv' := [(0, .ref (ad 0)), (1, .int x8), (2, .int 4), (3, .ref (ad (9 + 6 * 4)))]) C [1, 2, 3, 0] dX8_allLines_16 rfl (by decide) rfl ?_
  refine v_iload_n C 1 dX8_allLines_17 rfl rfl ?_
  refine v_aload_n C 3 dX8_allLines_18 rfl rfl ?_
  refine v_ifnonnull C 26 dX8_allLines_19 (by decide) ?_
  refine v_aload_n C 3 dX8_allLines_26 rfl rfl ?_
  refine v_geti (v := ip4 6) C (9 + 6 * 4) dX8_allLines_27 fX8_181 (by omega) hc04 rfl rfl ?_
  refine v_iadd C dX8_allLines_30 ?_
  refine v_top (fun x10 ex10 => ?_)
  have hx10 : x10.toInt = (((((0 + (fl 0).toInt) + (fl 1).toInt) + (fl 2).toInt) + (fl 3).toInt) + (fl 4).toInt) := by rw [ex10]; exact ti_add hx8 hsi4 (by omega) (by omega)
  refine v_istore_n (lv' := [(0, .ref (ad 0)), (1, .int x10), (2, .int 4), (3, .ref (ad (9 + 6 * 4)))]) C [1, 0, 2, 3] dX8_allLines_31 rfl (by decide) rfl ?_
  refine v_iinc (v := 5) (lv' := [(0, .ref (ad 0)), (1, .int x10), (2, .int 5), (3, .ref (ad (9 + 6 * 4)))]) C 2 [1, 2, 0, 3] dX8_allLines_32 rfl (by decide) (by decide) rfl ?_
  refine v_goto C 4 dX8_allLines_35 (by decide) ?_
  refine v_iload_n C 2 dX8_allLines_4 rfl rfl ?_
  refine v_bipush (v := 6) C dX8_allLines_5 (by decide) ?_
  refine b_icmp_ge C 38 dX8_allLines_7 (by decide) (show (5 : Int32).toInt = 5 by decide) (show (6 : Int32).toInt = 6 by decide) (fun c11 => absurd c11 (by decide)) (fun c11 => ?_)
  refine v_aload_n C 0 dX8_allLines_10 rfl rfl ?_
  refine v_getr C 0 dX8_allLines_11 fX8_25 (by omega) hE0 rfl rfl ?_
  refine v_iload_n C 2 dX8_allLines_14 rfl rfl ?_
  obtain ⟨ip5, po5, px5, py5, tp5, kd5, hc05, hsz5, -, -, -, -, -, -, -⟩ := id (hPg 5 (by decide))
  have hbi5 := hbl 5
  have hsi5 : (ip5 6).toInt = (fl 5).toInt := by rw [hsz5]
  refine v_aldP (v := some (ad (9 + 6 * 5))) C 8 dX8_allLines_15 (by omega) hE8 (ti_in (show (5 : Int32).toInt = 5 by decide) (by omega) (by omega)) ((congrArg fp (show Int32.toNatClampNeg 5 = 5 by decide)).trans (hfp 5 (by decide))) ?_
  refine v_astore_n (lv' := [(0, .ref (ad 0)), (1, .int x10), (2, .int 5), (3, .ref (ad (9 + 6 * 5)))]) C [1, 2, 3, 0] dX8_allLines_16 rfl (by decide) rfl ?_
  refine v_iload_n C 1 dX8_allLines_17 rfl rfl ?_
  refine v_aload_n C 3 dX8_allLines_18 rfl rfl ?_
  refine v_ifnonnull C 26 dX8_allLines_19 (by decide) ?_
  refine v_aload_n C 3 dX8_allLines_26 rfl rfl ?_
  refine v_geti (v := ip5 6) C (9 + 6 * 5) dX8_allLines_27 fX8_181 (by omega) hc05 rfl rfl ?_
  refine v_iadd C dX8_allLines_30 ?_
  refine v_top (fun x12 ex12 => ?_)
  have hx12 : x12.toInt = ((((((0 + (fl 0).toInt) + (fl 1).toInt) + (fl 2).toInt) + (fl 3).toInt) + (fl 4).toInt) + (fl 5).toInt) := by rw [ex12]; exact ti_add hx10 hsi5 (by omega) (by omega)
  refine v_istore_n (lv' := [(0, .ref (ad 0)), (1, .int x12), (2, .int 5), (3, .ref (ad (9 + 6 * 5)))]) C [1, 0, 2, 3] dX8_allLines_31 rfl (by decide) rfl ?_
  refine v_iinc (v := 6) (lv' := [(0, .ref (ad 0)), (1, .int x12), (2, .int 6), (3, .ref (ad (9 + 6 * 5)))]) C 2 [1, 2, 0, 3] dX8_allLines_32 rfl (by decide) (by decide) rfl ?_
  refine v_goto C 4 dX8_allLines_35 (by decide) ?_
  refine v_iload_n C 2 dX8_allLines_4 rfl rfl ?_
  refine v_bipush (v := 6) C dX8_allLines_5 (by decide) ?_
  refine b_icmp_ge C 38 dX8_allLines_7 (by decide) (show (6 : Int32).toInt = 6 by decide) (show (6 : Int32).toInt = 6 by decide) (fun c13 => ?_) (fun c13 => absurd c13 (by decide))
  refine v_iload_n C 1 dX8_allLines_38 rfl rfl ?_
  exact v_ret C dX8_allLines_39 rfl rfl ⟨(by unfold LNS; rw [hx12]; omega), rfl⟩

set_option maxRecDepth 20000 in
theorem g_count (l : Launch) (G : Gl) (n : Nat) (ad : Nat → Nat) (E : Nat → va_E) (hN : 68 ≤ n) {io iz : Nat → Int32} (hE0 : E 0 = ob 8 (rfs ad [1, 6, 8, 48, 45, 51]) io) (hE6 : E 6 = ob 7 (rfs ad [7]) iz) {fp : Nat → Option Nat} (hE8 : E 8 = aQ G 4 6 fp) (hfp : ∀ i, i < 6 → fp i = some (ad (9 + 6 * i))) {fl : Nat → Int32} (hPg : ∀ i, i < 6 → PgW G ad (9 + 6 * i) E (fl i)) (hbl : ∀ i, 0 ≤ (fl i).toInt ∧ (fl i).toInt ≤ 10) {ic md ms ld ys : Nat → Int32} (hE1 : E 1 = ob 0 (rfs ad [2, 3, 4, 5]) ic) (hE2 : E 2 = aI G 12 md) (hE3 : E 3 = aI G 12 ms) (hE4 : E 4 = aI G 100 ld) (hE5 : E 5 = aI G 101 ys) (hP : CalP ic md) (hF : CalF ic md ms ld ys) (w : Int32)  : CtI l G yX8_count cX8_count 2 .int 1 24 n ad E [.ref (ad 0), .int w] (fun r E' => (r.toInt = CNf (iz 1).toInt fl (io 6).toInt (YSf md (ic 4).toInt (ic 5).toInt 100) w.toInt) ∧ E = E') := by
  refine CtI.of (by decide) (Nat.le_of_ble_eq_true rfl) (fun X A C => ?_)
  refine v_sub (lv' := [(0, .ref (ad 0)), (1, .int w)]) [0, 1] rfl ?_
  refine v_iload_n C 1 dX8_count_0 rfl rfl ?_
  have q1v : Int32.toInt w = w.toInt := (rfl : Int32.toInt w = _)
  rcases (show w.toInt = 0 ∨ w.toInt = 1 ∨ w.toInt = 2 ∨ w.toInt = 3 ∨ (w.toInt < 0 ∨ 3 < w.toInt) by omega) with q1 | q1 | q1 | q1 | q1
  · refine v_tableIn (off := 31) C 32 dX8_count_1 (by omega) (by omega) (by rw [q1v, q1]; rfl) (by decide) ?_
    refine v_aload_n C 0 dX8_count_32 rfl rfl ?_
    refine v_getr C 0 dX8_count_33 fX8_19 (by omega) hE0 rfl rfl ?_
    refine v_geti (v := iz 1) C 6 dX8_count_36 fX8_64 (by omega) hE6 rfl rfl ?_
    exact v_ret C dX8_count_39 rfl rfl ⟨(show _ by unfold CNf; (repeat first | rw [if_pos (by omega)] | rw [if_neg (by omega)]); try omega), rfl⟩
  · refine v_tableIn (off := 39) C 40 dX8_count_1 (by omega) (by omega) (by rw [q1v, q1]; rfl) (by decide) ?_
    refine v_aload_n C 0 dX8_count_40 rfl rfl ?_
    refine v_cVp C dX8_count_41 lX8_276 mX8_allLines 0 (by omega) hE0 (by decide) rfl (g_allLines l G n ad _ hN hE0 hE6 hE8 hfp hPg hbl) ⟨by decide, by decide⟩ rfl (Nat.le_of_ble_eq_true rfl) ⟨Nat.zero_le _, Nat.zero_le _⟩ (fun r2 hp3 => ?_)
    exact v_ret C dX8_count_44 rfl rfl ⟨(show _ by unfold CNf; (repeat first | rw [if_pos (by omega)] | rw [if_neg (by omega)]); try omega), rfl⟩
  · refine v_tableIn (off := 44) C 45 dX8_count_1 (by omega) (by omega) (by rw [q1v, q1]; rfl) (by decide) ?_
    refine v_aload_n C 0 dX8_count_45 rfl rfl ?_
    refine v_geti (v := io 6) C 0 dX8_count_46 fX8_144 (by omega) hE0 rfl rfl ?_
    exact v_ret C dX8_count_49 rfl rfl ⟨(show _ by unfold CNf; (repeat first | rw [if_pos (by omega)] | rw [if_neg (by omega)]); try omega), rfl⟩
  · refine v_tableIn (off := 49) C 50 dX8_count_1 (by omega) (by omega) (by rw [q1v, q1]; rfl) (by decide) ?_
    refine v_aload_n C 0 dX8_count_50 rfl rfl ?_
    refine v_getr C 0 dX8_count_51 fX8_12 (by omega) hE0 rfl rfl ?_
    refine v_cVp C dX8_count_54 lX8_280 mX0_days 1 (by omega) hE1 (by decide) rfl (c_days l G n ad _ (by omega) hE1 hE2 hE3 hE4 hE5 hP hF) ⟨by decide, by decide⟩ rfl (Nat.le_of_ble_eq_true rfl) ⟨Nat.zero_le _, Nat.zero_le _⟩ (fun r4 hp5 => ?_)
    exact v_ret C dX8_count_57 rfl rfl ⟨(show _ by unfold CNf; (repeat first | rw [if_pos (by omega)] | rw [if_neg (by omega)]); try omega), rfl⟩
  · refine v_tableOut C 58 dX8_count_1 (by omega) (by decide) ?_
    refine v_iconst (v := (-1)) C dX8_count_58 (by decide) ?_
    exact v_ret C dX8_count_59 rfl rfl ⟨(show _ by rw [show ((-1) : Int32).toInt = (-1) by decide]; unfold CNf; (repeat first | rw [if_pos (by omega)] | rw [if_neg (by omega)]); try omega), rfl⟩

