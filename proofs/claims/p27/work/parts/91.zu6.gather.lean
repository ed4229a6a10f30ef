set_option maxRecDepth 20000 in
theorem g_gather (l : Launch) (G : Gl) (n : Nat) (ad : Nat → Nat) (E : Nat → va_E) {k : Nat} {ic md : Nat → Int32} {TT : Nat → TST} (hK : KSt G ad k ic md TT E) {iq ls : Nat → Int32} (h45 : E 45 = ob 4 (rfs ad [46, 47]) iq) {mk : Nat → Int64} (h46 : E 46 = aJ G 31251 mk) (h47 : E 47 = aI G 26002 ls) (h5b : iq 5 = 0 ∨ iq 5 = 1) (hOI : OdI k TT (YSf md (ic 4).toInt (ic 5).toInt 100) iq ls) (x : Int32) (y : Int32) (d : Int32) (hab : okOD x.toInt y.toInt) (hdd : d.toInt = (YSf md (ic 4).toInt (ic 5).toInt 100)) : CtV l G yX4_gather cX4_gather 8 3 75 (98 + 9 * k) ad E [.ref (ad 45), .int x, .int y, .ref (ad 6), .int d] (fun E' => GOp G ad k ic md TT x y E' ∧ ∀ j, j ≠ 45 → j ≠ 46 → j ≠ 47 → E' j = E j) := by
  refine CtV.of (by decide) (Nat.le_of_ble_eq_true rfl) (fun X A C => ?_)
  refine v_sub (lv' := [(0, .ref (ad 45)), (1, .int x), (2, .int y), (3, .ref (ad 6)), (4, .int d)]) [0, 1, 2, 3, 4] rfl ?_
  obtain ⟨⟨i49, h49⟩, hC, ⟨iz, fz, h6, hzk, h7, hfz⟩, hZY, hk5⟩ := id hK
  obtain ⟨ms, ld, ys, hC1, hC2, hC3, hC4, hC5, hP, hF⟩ := id hC
  have hcy := cal_y hP
  have hab9 := hab
  unfold okOD at hab9
  have hY1 := YS_pos hP
  refine v_aload_n C 0 dX4_gather_0 rfl rfl ?_
  have hJ24 : V X G A 8 (QV X G A (98 + 9 * k) ad (fun E' => GOp G ad k ic md TT x y E' ∧ ∀ j, j ≠ 45 → j ≠ 46 → j ≠ 47 → E' j = E j)) (98 + 9 * k) ad 0 0 E 24 [(0, .ref (ad 45)), (1, .int x), (2, .int y), (3, .ref (ad 6)), (4, .int d)] [] := by
    refine v_aload_n C 0 dX4_gather_24 rfl rfl ?_
    refine v_iconst (v := 1) C dX4_gather_25 (by decide) ?_
    refine v_puti C 45 dX4_gather_26 fX4_19 (by omega) h45 rfl rfl rfl rfl (fun E1 hE1_45 oE1 => ?_)
    have hE1_46 := (oE1 46 (by decide)).trans h46
    have hE1_47 := (oE1 47 (by decide)).trans h47
    have hE1_6 := (oE1 6 (by decide)).trans h6
    have hE1_7 := (oE1 7 (by decide)).trans h7
    refine v_aload_n C 0 dX4_gather_29 rfl rfl ?_
    refine v_iload_n C 1 dX4_gather_30 rfl rfl ?_
    refine v_puti C 45 dX4_gather_31 fX4_23 (by omega) hE1_45 rfl rfl rfl rfl (fun E2 hE2_45 oE2 => ?_)
    have hE2_46 := (oE2 46 (by decide)).trans hE1_46
    have hE2_47 := (oE2 47 (by decide)).trans hE1_47
    have hE2_6 := (oE2 6 (by decide)).trans hE1_6
    have hE2_7 := (oE2 7 (by decide)).trans hE1_7
    refine v_aload_n C 0 dX4_gather_34 rfl rfl ?_
    refine v_iload_n C 2 dX4_gather_35 rfl rfl ?_
    refine v_puti C 45 dX4_gather_36 fX4_27 (by omega) hE2_45 rfl rfl rfl rfl (fun E3 hE3_45 oE3 => ?_)
    have hE3_46 := (oE3 46 (by decide)).trans hE2_46
    have hE3_47 := (oE3 47 (by decide)).trans hE2_47
    have hE3_6 := (oE3 6 (by decide)).trans hE2_6
    have hE3_7 := (oE3 7 (by decide)).trans hE2_7
    refine v_iload_n C 2 dX4_gather_39 rfl rfl ?_
    refine v_iload_n C 1 dX4_gather_40 rfl rfl ?_
    refine v_isub C dX4_gather_41 ?_
    refine v_top (fun x4 ex4 => ?_)
    have hx4 : x4.toInt = (y.toInt - x.toInt) := by rw [ex4]; exact ti_sub (rfl : Int32.toInt y = _) (rfl : Int32.toInt x = _) (by omega) (by omega)
    refine v_bipush (v := 64) C dX4_gather_42 (by decide) ?_
    refine v_idiv C dX4_gather_44 (by decide) ?_
    refine v_top (fun x5 ex5 => ?_)
    have hx5 : x5.toInt = ((y.toInt - x.toInt) / 64) := by rw [ex5]; exact ti_div hx4 (show (64 : Int32).toInt = 64 by decide) (by omega) (by omega)
    refine v_iconst (v := 1) C dX4_gather_45 (by decide) ?_
    refine v_iadd C dX4_gather_46 ?_
    refine v_top (fun x6 ex6 => ?_)
    have hx6 : x6.toInt = (((y.toInt - x.toInt) / 64) + 1) := by rw [ex6]; exact ti_add hx5 (show (1 : Int32).toInt = 1 by decide) (by omega) (by omega)
    refine v_aload_n C 0 dX4_gather_47 rfl rfl ?_
    refine v_getr C 45 dX4_gather_48 fX4_9 (by omega) hE3_45 rfl rfl ?_
    refine v_alenJ (v := 31251) C 46 dX4_gather_51 (by omega) hE3_46 (by decide) ?_
    refine v_mmin C dX4_gather_52 lX4_30 mJ9_min_7cf53.2.2.1 mJ9_min_7cf53.2.1 mJ9_min_7cf53.1 ⟨by decide, Nat.le_of_ble_eq_true rfl⟩ ⟨Nat.zero_le _, Nat.zero_le _⟩ ?_
    refine v_top (fun x7 ex7 => ?_)
    have hx7 : x7.toInt ≤ (((y.toInt - x.toInt) / 64) + 1) ∧ x7.toInt ≤ 31251 ∧ (x7.toInt = (((y.toInt - x.toInt) / 64) + 1) ∨ x7.toInt = 31251) := by rw [ex7]; exact mmin_b hx6 (show (31251 : Int32).toInt = 31251 by decide)
    obtain ⟨Wn, hWn⟩ : ∃ q : Nat, x7.toInt = (q : Int) := ⟨x7.toInt.toNat, by omega⟩
    have hWb : Wn ≤ 31251 ∧ y.toInt - x.toInt < 64 * (Wn : Int) := by omega
    refine v_istore (lv' := [(0, .ref (ad 45)), (1, .int x), (2, .int y), (3, .ref (ad 6)), (4, .int d), (5, .int x7)]) C [1, 2, 3, 4, 5, 0] dX4_gather_55 (by decide) rfl ?_
    refine v_iconst (v := 0) C dX4_gather_57 (by decide) ?_
    refine v_istore (lv' := [(0, .ref (ad 45)), (1, .int x), (2, .int y), (3, .ref (ad 6)), (4, .int d), (5, .int x7), (6, .int 0)]) C [1, 2, 3, 4, 5, 6, 0] dX4_gather_58 (by decide) rfl ?_
    have LP8 : ∀ (t : Nat) (i1 : Nat) (y9 : Int32) (mk1 : Nat → Int64) (E10 : Nat → va_E), (y9.toInt = (i1 : Int)) → (E10 46 = aJ G 31251 mk1 ∧ (∀ i, i < i1 → mk1 i = 0) ∧ ∀ j, j ≠ 46 → E10 j = E3 j) → (i1 ≤ Wn) → (Wn : Int) - (i1 : Int) < (t : Int) → V X G A 8 (QV X G A (98 + 9 * k) ad (fun E' => GOp G ad k ic md TT x y E' ∧ ∀ j, j ≠ 45 → j ≠ 46 → j ≠ 47 → E' j = E j)) (98 + 9 * k) ad 0 0 E10 60 [(0, .ref (ad 45)), (1, .int x), (2, .int y), (3, .ref (ad 6)), (4, .int d), (5, .int x7), (6, .int y9)] [] := by
      intro t13
      induction t13 with
      | zero => intro i1 y9 mk1 E10 hy9 hI11 hq12 hm15; exfalso; omega
      | succ t13 ih14 =>
        intro i1 y9 mk1 E10 hy9 hI11 hq12 hm15
        obtain ⟨c46, cz, cO⟩ := id hI11
        have cE10_45 := (cO 45 (by omega)).trans hE3_45
        have cE10_47 := (cO 47 (by omega)).trans hE3_47
        have cE10_6 := (cO 6 (by omega)).trans hE3_6
        have cE10_7 := (cO 7 (by omega)).trans hE3_7
        refine v_iload C 6 dX4_gather_60 rfl ?_
        refine v_iload C 5 dX4_gather_62 rfl ?_
        refine b_icmp_ge C 81 dX4_gather_64 (by decide) hy9 hWn (fun c16 => ?_) (fun c16 => ?_)
        · have hz0 : ∀ p, p < 64 * Wn → ¬ btB mk1 p = true := fun p hp => bt_zero (cz (p / 64) (by omega))
          have hq0 : ∀ z, ¬ QRk mk1 x.toInt y.toInt z := fun z q => hz0 (z - x.toInt).toNat (by have := q.2; have := q.1.1; omega) q.1.2
          have hb0 : QBk mk1 x.toInt y.toInt (64 * Wn) := fun p h1 h2 => absurd h2 (hz0 p h1)
          have hc0 : cntB mk1 (64 * Wn) = 0 := (cB_to (Nat.zero_le _) (fun p _ h => hz0 p h))
          refine v_aload_n C 0 dX4_gather_81 rfl rfl ?_
          refine v_iload_n C 1 dX4_gather_82 rfl rfl ?_
          refine v_cVv C dX4_gather_83 lX4_36 mX4_mark 45 (by omega) cE10_45 (by decide) rfl (g_mark l G _ ad _ (by omega) cE10_45 c46 (la := x.toInt) (lb := y.toInt) rfl rfl hab x (mm := x.toInt) rfl (by omega)) ⟨by decide, by decide⟩ rfl (Nat.le_of_ble_eq_true rfl) ⟨Nat.zero_le _, Nat.zero_le _⟩ (fun E17 hq18 => ?_)
          obtain ⟨mk19, k119, k219, k319, k419⟩ := hq18
          have hE17_45 := (k419 45 (by omega)).trans cE10_45
          have hE17_47 := (k419 47 (by omega)).trans cE10_47
          have hE17_6 := (k419 6 (by omega)).trans cE10_6
          have hE17_7 := (k419 7 (by omega)).trans cE10_7
          refine v_aload_n C 0 dX4_gather_86 rfl rfl ?_
          refine v_iload_n C 2 dX4_gather_87 rfl rfl ?_
          refine v_cVv C dX4_gather_88 lX4_36 mX4_mark 45 (by omega) hE17_45 (by decide) rfl (g_mark l G _ ad _ (by omega) hE17_45 k119 (la := x.toInt) (lb := y.toInt) rfl rfl hab y (mm := y.toInt) rfl (by omega)) ⟨by decide, by decide⟩ rfl (Nat.le_of_ble_eq_true rfl) ⟨Nat.zero_le _, Nat.zero_le _⟩ (fun E20 hq21 => ?_)
          obtain ⟨mk22, k122, k222, k322, k422⟩ := hq21
          have hE20_45 := (k422 45 (by omega)).trans hE17_45
          have hE20_47 := (k422 47 (by omega)).trans hE17_47
          have hE20_6 := (k422 6 (by omega)).trans hE17_6
          have hE20_7 := (k422 7 (by omega)).trans hE17_7
          have hs0 := os_0b (TT := TT) (Y := (YSf md (ic 4).toInt (ic 5).toInt 100)) hq0 (qr_pt k219) (qr_pt k222)
          have hqb := qb_of (qb_of hb0 (fun z q => q.2.2) k219) (fun z q => q.2.2) k222
          have hcb : cntB mk22 (64 * Wn) ≤ 2 := by have := k319 (64 * Wn); have := k322 (64 * Wn); omega
          refine v_iconst (v := 0) C dX4_gather_91 (by decide) ?_
          refine v_istore (lv' := [(0, .ref (ad 45)), (1, .int x), (2, .int y), (3, .ref (ad 6)), (4, .int d), (5, .int x7), (6, .int 0)]) C [1, 2, 3, 4, 5, 6, 0] dX4_gather_92 (by decide) rfl ?_
          have LP23 : ∀ (t : Nat) (z1 : Nat) (y24 : Int32) (mk3 : Nat → Int64) (E25 : Nat → va_E), (y24.toInt = (z1 : Int)) → (E25 46 = aJ G 31251 mk3 ∧ ∀ j, j ≠ 46 → E25 j = E20 j) → (z1 ≤ k) → (∀ q, QRk mk3 x.toInt y.toInt q ↔ isOd z1 TT (YSf md (ic 4).toInt (ic 5).toInt 100) x.toInt y.toInt q) → (QBk mk3 x.toInt y.toInt (64 * Wn)) → (cntB mk3 (64 * Wn) ≤ 2 + 5200 * z1) → (k : Int) - (z1 : Int) < (t : Int) → V X G A 8 (QV X G A (98 + 9 * k) ad (fun E' => GOp G ad k ic md TT x y E' ∧ ∀ j, j ≠ 45 → j ≠ 46 → j ≠ 47 → E' j = E j)) (98 + 9 * k) ad 0 0 E25 94 [(0, .ref (ad 45)), (3, .ref (ad 6)), (4, .int d), (5, .int x7), (6, .int y24)] [] := by
            intro t28
            induction t28 with
            | zero => intro z1 y24 mk3 E25 hy24 hI26 hq27 hset hqb hcn3 hm30; exfalso; omega
            | succ t28 ih29 =>
              intro z1 y24 mk3 E25 hy24 hI26 hq27 hset hqb hcn3 hm30
              obtain ⟨z46, zO⟩ := id hI26
              have zE25_45 := (zO 45 (by omega)).trans hE20_45
              have zE25_47 := (zO 47 (by omega)).trans hE20_47
              have zE25_6 := (zO 6 (by omega)).trans hE20_6
              have zE25_7 := (zO 7 (by omega)).trans hE20_7
              have hKz := hK.go (E1 := E25) (fun j hj => ((zO j (by omega)).trans ((k422 j (by omega)).trans ((k419 j (by omega)).trans ((cO j (by omega)).trans ((oE3 j (by omega)).trans ((oE2 j (by omega)).trans (oE1 j (by omega)))))))))
              refine v_iload C 4 dX4_gather_94 rfl ?_
              refine v_aload_n C 1 dX4_gather_96 rfl rfl ?_
              refine v_geti (v := iz 1) C 6 dX4_gather_97 fX4_40 (by omega) zE25_6 rfl rfl ?_
              refine b_icmp_ge C 136 dX4_gather_100 (by decide) hy24 hzk (fun c31 => ?_) (fun c31 => ?_)
              · refine v_aload_n C 0 dX4_gather_136 rfl rfl ?_
                refine v_iload C 3 dX4_gather_137 rfl ?_
                refine v_cVv C dX4_gather_139 lX4_57 mX4_listMarks 45 (by omega) zE25_45 (by decide) rfl (g_listMarks l G _ ad _ (by omega) zE25_45 z46 (la := x.toInt) (lb := y.toInt) rfl rfl hab zE25_47 (Wn := Wn) hWb.1 (by omega) x7 hWn) ⟨by decide, by decide⟩ rfl (Nat.le_of_ble_eq_true rfl) ⟨Nat.zero_le _, Nat.zero_le _⟩ (fun E32 hq33 => ?_)
                obtain ⟨iqL, lsL, m1, m2, m3, m4, m5, m6⟩ := hq33
                have hsk : ∀ q, QRk mk3 x.toInt y.toInt q ↔ isOd k TT (YSf md (ic 4).toInt (ic 5).toInt 100) x.toInt y.toInt q := by have hzk : z1 = k := (by omega); rw [← hzk]; exact hset
                have hen := en_marks hqb (by omega) hsk m5
                exact v_vret C dX4_gather_142 rfl ⟨⟨iqL, lsL, _, m1, m4, ⟨mk3, (m6 46 (by decide) (by decide)).trans z46⟩, (m2 5 (by decide)).trans rfl, (m2 3 (by decide)).trans rfl, (m2 4 (by decide)).trans rfl, m3, by omega, hen⟩, fun j g1 g2 g3 => (m6 j g1 g3).trans (((zO j (by omega)).trans ((k422 j (by omega)).trans ((k419 j (by omega)).trans ((cO j (by omega)).trans ((oE3 j (by omega)).trans ((oE2 j (by omega)).trans (oE1 j (by omega)))))))))⟩
              · refine v_aload_n C 1 dX4_gather_103 rfl rfl ?_
                refine v_iload C 4 dX4_gather_104 rfl ?_
                refine v_cVr C dX4_gather_106 lX4_45 mX7_at 6 (by omega) zE25_6 (by decide) rfl (g_zoneAt l G _ ad _ (by omega) zE25_6 hzk zE25_7 hfz hk5 y24) ⟨by decide, by decide⟩ rfl (Nat.le_of_ble_eq_true rfl) ⟨Nat.zero_le _, Nat.zero_le _⟩ (fun r34 hp35 => ?_)
                rw [hy24] at hp35
                rcases hp35 with ⟨hno, rfl⟩ | ⟨i, hi, hki, rfl⟩
                · exfalso
                  omega
                · have eiz : z1 = i := by omega
                  subst eiz
                  obtain ⟨⟨ib, ss, se, os, c, hB, hz6, hz7, hz8, hc, hcT, hZ, hS⟩, hokT⟩ := hKz.2.2.2.1 z1 hki
                  obtain ⟨zb, ezb⟩ : ∃ q : Nat, q = 98 + 9 * z1 := ⟨_, rfl⟩
                  rw [← ezb] at hB hz6 hz7 hz8 ⊢
                  refine v_astore (lv' := [(0, .ref (ad 45)), (3, .ref (ad 6)), (4, .int d), (5, .int x7), (6, .int y24), (7, .ref (ad zb))]) C [1, 2, 3, 4, 5, 0] dX4_gather_109 (by decide) rfl ?_
                  refine v_aload C 5 dX4_gather_111 rfl ?_
                  refine v_ifnull C dX4_gather_113 ?_
                  refine v_aload_n C 0 dX4_gather_116 rfl rfl ?_
                  refine v_aload C 5 dX4_gather_117 rfl ?_
                  refine v_cVv C dX4_gather_119 lX4_49 mX4_markChanges 45 (by omega) zE25_45 (by decide) rfl (g_markChanges l G (98 + 9 * k) ad _ (by omega) zE25_45 z46 (la := x.toInt) (lb := y.toInt) rfl rfl hab zb (by omega) hB hz6 hz7 hz8 hc hS hcT hZ hokT (by omega)) ⟨by decide, by decide⟩ rfl (Nat.le_of_ble_eq_true rfl) ⟨Nat.zero_le _, Nat.zero_le _⟩ (fun E36 hq37 => ?_)
                  obtain ⟨mkc, clo, chi, g1c, g2c, g3c, g4c, g5c, g6c, g7c, g8c⟩ := hq37
                  have hE36_45 := (g8c 45 (by omega)).trans zE25_45
                  have hE36_47 := (g8c 47 (by omega)).trans zE25_47
                  have hE36_6 := (g8c 6 (by omega)).trans zE25_6
                  have hE36_7 := (g8c 7 (by omega)).trans zE25_7
                  have hE36_zb := (g8c zb (by omega)).trans hB
                  have yE36_zb6 := (g8c (zb + 6) (by omega)).trans hz6
                  have yE36_zb7 := (g8c (zb + 7) (by omega)).trans hz7
                  have yE36_zb8 := (g8c (zb + 8) (by omega)).trans hz8
                  refine v_aload_n C 0 dX4_gather_122 rfl rfl ?_
                  refine v_aload C 5 dX4_gather_123 rfl ?_
                  refine v_iload C 2 dX4_gather_125 rfl ?_
                  refine v_cVv C dX4_gather_127 lX4_53 mX4_markDays 45 (by omega) hE36_45 (by decide) rfl (g_markDays l G (98 + 9 * k) ad _ (by omega) hE36_45 g1c (la := x.toInt) (lb := y.toInt) rfl rfl hab zb (by omega) hE36_zb yE36_zb6 yE36_zb7 yE36_zb8 hc hS hcT hZ hokT (by omega) (Y := (YSf md (ic 4).toInt (ic 5).toInt 100)) (by omega) d hdd) ⟨by decide, by decide⟩ rfl (Nat.le_of_ble_eq_true rfl) ⟨Nat.zero_le _, Nat.zero_le _⟩ (fun E38 hq39 => ?_)
                  obtain ⟨mkd, d0d, d1d, d1c, d2c, d3c, d4c, d5c, d6c⟩ := hq39
                  have hE38_45 := (d6c 45 (by omega)).trans hE36_45
                  have hE38_47 := (d6c 47 (by omega)).trans hE36_47
                  have hE38_6 := (d6c 6 (by omega)).trans hE36_6
                  have hE38_7 := (d6c 7 (by omega)).trans hE36_7
                  obtain ⟨x40, ex40⟩ : ∃ y : Int32, y = y24 + 1 := ⟨_, rfl⟩
                  have hx40 : x40.toInt = ((z1 : Int) + 1) := by rw [ex40]; exact ti_add hy24 (show (1 : Int32).toInt = 1 by decide) (by omega) (by omega)
                  refine v_iinc (v := x40) (lv' := [(0, .ref (ad 45)), (3, .ref (ad 6)), (4, .int d), (5, .int x7), (6, .int x40), (7, .ref (ad zb))]) C 4 [1, 2, 3, 4, 0, 5] dX4_gather_130 rfl (ex40.symm) (by decide) rfl ?_
                  refine v_goto C 94 dX4_gather_133 (by decide) ?_
                  refine v_sub (lv' := [(0, .ref (ad 45)), (3, .ref (ad 6)), (4, .int d), (5, .int x7), (6, .int x40)]) [0, 1, 2, 3, 4] rfl ?_
                  exact ih29 (z1 + 1) x40 mkd E38 (show Int32.toInt x40 = ((z1 + 1 : Nat) : Int) by have := hx40; omega) (⟨d1c, fun j hj => ((d6c j hj).trans ((g8c j hj).trans (zO j hj)))⟩) (by omega) (os_step hokT g2c g3c g4c g5c hset (qr_ch g6c) (qr_dy d4c) d2c d3c) (qb_of (qb_of hqb (fun z q => q.1.2) g6c) (fun z q => q.1.2) d4c) (by have := hcn3; have := g7c (64 * Wn); have := d5c (64 * Wn); omega) (by omega)
          refine v_sub (lv' := [(0, .ref (ad 45)), (3, .ref (ad 6)), (4, .int d), (5, .int x7), (6, .int 0)]) [0, 3, 4, 5, 6] rfl ?_
          exact LP23 100000 0 0 mk22 E20 (show Int32.toInt 0 = ((0 : Nat) : Int) by have := (show (0 : Int32).toInt = 0 by decide); omega) (⟨k122, fun _ _ => rfl⟩) (by omega) (hs0) (hqb) (by omega) (by omega)
        · refine v_aload_n C 0 dX4_gather_67 rfl rfl ?_
          refine v_getr C 45 dX4_gather_68 fX4_9 (by omega) cE10_45 rfl rfl ?_
          refine v_iload C 6 dX4_gather_71 rfl ?_
          refine v_lconst (v := 0) C dX4_gather_73 (by decide) ?_
          refine v_jast C 46 dX4_gather_74 (by omega) c46 (ti_in hy9 (by omega) (by omega)) (fun E41 hE41_46 oE41 => ?_)
          rw [ti_cl hy9, show Int.toNat (i1 : Int) = i1 by omega] at hE41_46
          have hE41_45 := (oE41 45 (by decide)).trans cE10_45
          have hE41_47 := (oE41 47 (by decide)).trans cE10_47
          have hE41_6 := (oE41 6 (by decide)).trans cE10_6
          have hE41_7 := (oE41 7 (by decide)).trans cE10_7
          obtain ⟨x42, ex42⟩ : ∃ y : Int32, y = y9 + 1 := ⟨_, rfl⟩
          have hx42 : x42.toInt = ((i1 : Int) + 1) := by rw [ex42]; exact ti_add hy9 (show (1 : Int32).toInt = 1 by decide) (by omega) (by omega)
          refine v_iinc (v := x42) (lv' := [(0, .ref (ad 45)), (1, .int x), (2, .int y), (3, .ref (ad 6)), (4, .int d), (5, .int x7), (6, .int x42)]) C 6 [1, 2, 3, 4, 5, 6, 0] dX4_gather_75 rfl (ex42.symm) (by decide) rfl ?_
          refine v_goto C 60 dX4_gather_78 (by decide) ?_
          exact ih14 (i1 + 1) x42 (vp_updL mk1 i1 0) E41 (show Int32.toInt x42 = ((i1 + 1 : Nat) : Int) by have := hx42; omega) (⟨hE41_46, (fun i h => by by_cases e : i = i1; (subst e; simp [vp_updL]); (simp [vp_updL, e]; exact cz i (by omega))), fun j hj => ((oE41 j hj).trans (cO j hj))⟩) (by omega) (by omega)
    exact LP8 100000 0 0 mk E3 (show Int32.toInt 0 = ((0 : Nat) : Int) by have := (show (0 : Int32).toInt = 0 by decide); omega) (⟨hE3_46, (fun i h => absurd h (by omega)), fun _ _ => rfl⟩) (by omega) (by omega)
  refine v_geti (v := iq 5) C 45 dX4_gather_1 fX4_19 (by omega) h45 rfl rfl ?_
  refine b_if_eq C 24 dX4_gather_4 (by decide) (rfl : Int32.toInt (iq 5) = _) (fun c43 => ?_) (fun c43 => ?_)
  · exact hJ24
  · refine v_iload_n C 1 dX4_gather_7 rfl rfl ?_
    refine v_aload_n C 0 dX4_gather_8 rfl rfl ?_
    refine v_geti (v := iq 3) C 45 dX4_gather_9 fX4_23 (by omega) h45 rfl rfl ?_
    refine b_icmp_ne C 24 dX4_gather_12 (by decide) (rfl : Int32.toInt x = _) (rfl : Int32.toInt (iq 3) = _) (fun c44 => ?_) (fun c44 => ?_)
    · exact hJ24
    · refine v_iload_n C 2 dX4_gather_15 rfl rfl ?_
      refine v_aload_n C 0 dX4_gather_16 rfl rfl ?_
      refine v_geti (v := iq 4) C 45 dX4_gather_17 fX4_27 (by omega) h45 rfl rfl ?_
      refine b_icmp_ne C 24 dX4_gather_20 (by decide) (rfl : Int32.toInt y = _) (rfl : Int32.toInt (iq 4) = _) (fun c45 => ?_) (fun c45 => ?_)
      · exact hJ24
      · have h51 : iq 5 = 1 := by rcases h5b with q | q; (exfalso; have q2 : (iq 5).toInt = 0 := (by rw [q]; decide); omega); exact q
        have hx3 : iq 3 = x := ti_ext (by omega)
        have hy4 : iq 4 = y := ti_ext (by omega)
        obtain ⟨-, n0, p1, p2, p3⟩ := hOI h51
        rw [hx3, hy4] at p3
        exact v_vret C dX4_gather_23 rfl ⟨⟨iq, ls, n0, h45, h47, ⟨mk, h46⟩, h51, hx3, hy4, p1, p2, p3⟩, fun _ _ _ _ => rfl⟩

