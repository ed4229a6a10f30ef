set_option maxRecDepth 20000 in
theorem z_tell (l : Launch) (G : Gl) (n : Nat) (ad : Nat → Nat) (E : Nat → va_E) (b : Nat) (hb : b + 9 ≤ n) {ib : Nat → Int32} (hB : E b = ob 6 (rfs ad [b + 1, b + 2, b + 3, b + 4, b + 5, b + 6, b + 7, b + 8]) ib) {to : Nat → Int32} (h1 : E (b + 1) = aI G 8 to) {ro : Nat → Int32} (h2 : E (b + 2) = aI G 8 ro) {R : Nat} (hR : (ib 8).toInt = (R : Int)) (hR8 : R < 8) (x : Int32) (v : Int32) : CtI l G yX6_tell cX6_tell 3 .int 0 0 (n) ad E [.ref (ad b), .int x, .int v] (fun r E' => r.toInt = (R : Int) ∧ ∃ n2 : Int32, n2.toInt = (R : Int) + 1 ∧ E' b = ob 6 (rfs ad [b + 1, b + 2, b + 3, b + 4, b + 5, b + 6, b + 7, b + 8]) (va_up ib 8 n2) ∧ E' (b + 1) = aI G 8 (upd to R x) ∧ E' (b + 2) = aI G 8 (upd ro R v) ∧ ∀ j, j ≠ b → j ≠ b + 1 → j ≠ b + 2 → E' j = E j) := by
  refine CtI.of (by decide) (Nat.le_of_ble_eq_true rfl) (fun X A C => ?_)
  refine v_sub (lv' := [(0, .ref (ad b)), (1, .int x), (2, .int v)]) [0, 1, 2] rfl ?_
  refine v_aload_n C 0 dX6_tell_0 rfl rfl ?_
  refine v_geti (v := ib 8) C b dX6_tell_1 fX6_37 (by omega) hB rfl rfl ?_
  refine v_bipush (v := 8) C dX6_tell_4 (by decide) ?_
  refine b_icmp_lt C 12 dX6_tell_6 (by decide) hR (show (8 : Int32).toInt = 8 by decide) (fun c1 => ?_) (fun c1 => ?_)
  · refine v_aload_n C 0 dX6_tell_12 rfl rfl ?_
    refine v_getr C b dX6_tell_13 fX6_9 (by omega) hB rfl rfl ?_
    refine v_aload_n C 0 dX6_tell_16 rfl rfl ?_
    refine v_geti (v := ib 8) C b dX6_tell_17 fX6_37 (by omega) hB rfl rfl ?_
    refine v_iload_n C 1 dX6_tell_20 rfl rfl ?_
    refine v_ast C (b + 1) dX6_tell_21 (by omega) h1 (ti_in hR (by omega) (by omega)) (fun E2 hE2_b1 oE2 => ?_)
    rw [ti_cl hR, show Int.toNat (R : Int) = R by omega] at hE2_b1
    have hE2_b := (oE2 b (by omega)).trans hB
    have hE2_b2 := (oE2 (b + 2) (by omega)).trans h2
    refine v_aload_n C 0 dX6_tell_22 rfl rfl ?_
    refine v_getr C b dX6_tell_23 fX6_15 (by omega) hE2_b rfl rfl ?_
    refine v_aload_n C 0 dX6_tell_26 rfl rfl ?_
    refine v_geti (v := ib 8) C b dX6_tell_27 fX6_37 (by omega) hE2_b rfl rfl ?_
    refine v_iload_n C 2 dX6_tell_30 rfl rfl ?_
    refine v_ast C (b + 2) dX6_tell_31 (by omega) hE2_b2 (ti_in hR (by omega) (by omega)) (fun E3 hE3_b2 oE3 => ?_)
    rw [ti_cl hR, show Int.toNat (R : Int) = R by omega] at hE3_b2
    have hE3_b := (oE3 b (by omega)).trans hE2_b
    have hE3_b1 := (oE3 (b + 1) (by omega)).trans hE2_b1
    refine v_aload_n C 0 dX6_tell_32 rfl rfl ?_
    refine v_dup C dX6_tell_33 rfl ?_
    refine v_geti (v := ib 8) C b dX6_tell_34 fX6_37 (by omega) hE3_b rfl rfl ?_
    refine v_iconst (v := 1) C dX6_tell_37 (by decide) ?_
    refine v_iadd C dX6_tell_38 ?_
    refine v_top (fun x4 ex4 => ?_)
    have hx4 : x4.toInt = ((R : Int) + 1) := by rw [ex4]; exact ti_add hR (show (1 : Int32).toInt = 1 by decide) (by omega) (by omega)
    refine v_puti C b dX6_tell_39 fX6_37 (by omega) hE3_b rfl rfl rfl rfl (fun E5 hE5_b oE5 => ?_)
    have hE5_b1 := (oE5 (b + 1) (by omega)).trans hE3_b1
    have hE5_b2 := (oE5 (b + 2) (by omega)).trans hE3_b2
    refine v_aload_n C 0 dX6_tell_42 rfl rfl ?_
    refine v_geti (v := x4) C b dX6_tell_43 fX6_37 (by omega) hE5_b rfl rfl ?_
    refine v_iconst (v := 1) C dX6_tell_46 (by decide) ?_
    refine v_isub C dX6_tell_47 ?_
    refine v_top (fun x6 ex6 => ?_)
    have hx6 : x6.toInt = (((R : Int) + 1) - 1) := by rw [ex6]; exact ti_sub hx4 (show (1 : Int32).toInt = 1 by decide) (by omega) (by omega)
    exact v_ret C dX6_tell_48 rfl rfl ⟨(by have := hx6; omega), _, hx4, hE5_b, hE5_b1, hE5_b2, fun j g0 g1 g2 => ((oE5 j g0).trans ((oE3 j g2).trans (oE2 j g1)))⟩
  · refine v_bipush (v := 7) C dX6_tell_9 (by decide) ?_
    exfalso
    omega

set_option maxRecDepth 20000 in
theorem k_rule (l : Launch) (G : Gl) (n : Nat) (ad : Nat → Nat) (E : Nat → va_E) {k : Nat} {ic md rf rto ron rat rbe rtd rm fv : Nat → Int32} {E0 : Nat → va_E} (hJ : J8 G ad k E0 E) (hZ : ZCl G ad k ic md rf rto ron rat rbe rtd rm fv E) (hV : ∀ z, z < k → RZv ic rf rto ron rat rbe rtd rm fv z) {td : Int32} {io iz iq : Nat → Int32} (hE0 : E 0 = ob 8 (rfs ad [1, 6, 8, 48, 45, 51]) io) (htd : io 6 = td) (hC : CalW G ad E ic md) (hE6 : E 6 = ob 7 (rfs ad [7]) iz) (hE45 : E 45 = ob 4 (rfs ad [46, 47]) iq) (z : Int32) (y : Int32) (o : Int32) (a : Int32) (v : Int32) : CtI l G yX8_rule cX8_rule 13 .int 4 92 (98 + 9 * k) ad E [.ref (ad 0), .int z, .int y, .int o, .int a, .int v] (fun r E' => (¬ okRU k (ic 7).toInt z.toInt y.toInt o.toInt a.toInt v.toInt ∧ r.toInt = -1 ∧ E = E') ∨ (okRU k (ic 7).toInt z.toInt y.toInt o.toInt a.toInt v.toInt ∧ (∃ i : Nat, z.toInt = (i : Int) ∧ (rm i).toInt = 8) ∧ r.toInt = -2 ∧ E = E') ∨ (okRU k (ic 7).toInt z.toInt y.toInt o.toInt a.toInt v.toInt ∧ ∃ i R : Nat, z.toInt = (i : Int) ∧ i < k ∧ (rm i).toInt = (R : Int) ∧ R < 8 ∧ r.toInt = (R : Int) + 1 ∧ (∀ f t n1 : Int32, f.toInt = y.toInt / 100 → t.toInt = y.toInt % 100 → n1.toInt = (R : Int) + 1 → ZN1 G ad (98 + 9 * i) i ic md (upd rf (8 * i + R) f) (upd rto (8 * i + R) t) (upd ron (8 * i + R) o) (upd rat (8 * i + R) a) (upd rbe (8 * i + R) v) (upd rtd (8 * i + R) td) (upd rm i n1) fv E') ∧ E' 45 = ob 4 (rfs ad [46, 47]) (va_up iq 5 0) ∧ ∀ j, j ≠ 45 → (j < 98 + 9 * i ∨ 98 + 9 * i + 9 ≤ j) → E' j = E j)) := by
  refine CtI.of (by decide) (Nat.le_of_ble_eq_true rfl) (fun X A C => ?_)
  refine v_sub (lv' := [(0, .ref (ad 0)), (1, .int z), (2, .int y), (3, .int o), (4, .int a), (5, .int v)]) [0, 1, 2, 3, 4, 5] rfl ?_
  obtain ⟨ms, ld, ys, hC1, hC2, hC3, hC4, hC5, hP, hF⟩ := id hC
  have hk5 := hJ.1
  refine v_aload_n C 0 dX8_rule_0 rfl rfl ?_
  refine v_getr C 0 dX8_rule_1 fX8_19 (by omega) hE0 rfl rfl ?_
  refine v_iload_n C 1 dX8_rule_4 rfl rfl ?_
  refine v_cVr C dX8_rule_5 lX8_132 mX7_at 6 (by omega) hE6 (by decide) rfl (t_X7_at l G ad hJ z) ⟨by decide, by decide⟩ rfl (Nat.le_of_ble_eq_true rfl) ⟨Nat.zero_le _, Nat.zero_le _⟩ (fun r0 hp0 => ?_)
  rcases hp0 with ⟨hno, rfl⟩ | ⟨i, hi, hk, rfl⟩
  · refine v_astoreN (lv' := [(0, .ref (ad 0)), (1, .int z), (2, .int y), (3, .int o), (4, .int a), (5, .int v), (6, .null)]) C [1, 2, 3, 4, 5, 6, 0] dX8_rule_8 (by decide) rfl ?_
    refine v_aloadN C 6 dX8_rule_10 rfl ?_
    refine v_ifnullN C 39 dX8_rule_12 (by decide) ?_
    refine v_iconst (v := (-1)) C dX8_rule_39 (by decide) ?_
    exact v_ret C dX8_rule_40 rfl rfl (Or.inl ⟨by intro q; unfold okRU at q; omega, by decide, rfl⟩)
  · have hz1 := hZ i hk
    obtain ⟨b, eb⟩ : ∃ q : Nat, q = 98 + 9 * i := ⟨_, rfl⟩
    rw [← eb] at hz1 ⊢
    obtain ⟨ib, to, ro, rw0, yw, yo, ss, se, os, rt, R, hB, h1, h2, h3, h4, h5, h6, h7, h8, eR, e8, e9, hrt, s0, v0, hto, hrw, hZR, hEN⟩ := hz1
    have hb : b + 9 ≤ 98 + 9 * k := by omega
    have hv8 := (hV i hk).1
    have hzi : z.toInt = (i : Int) := hi.symm
    refine v_astore (lv' := [(0, .ref (ad 0)), (1, .int z), (2, .int y), (3, .int o), (4, .int a), (5, .int v), (6, .ref (ad b))]) C [1, 2, 3, 4, 5, 6, 0] dX8_rule_8 (by decide) rfl ?_
    refine v_aload C 6 dX8_rule_10 rfl ?_
    refine v_ifnull C dX8_rule_12 ?_
    refine v_iload_n C 2 dX8_rule_15 rfl rfl ?_
    refine b_if_lt C 39 dX8_rule_16 (by decide) (rfl : Int32.toInt y = _) (fun c1 => ?_) (fun c1 => ?_)
    · refine v_iconst (v := (-1)) C dX8_rule_39 (by decide) ?_
      exact v_ret C dX8_rule_40 rfl rfl (Or.inl ⟨by intro q; unfold okRU at q; omega, by decide, rfl⟩)
    · refine v_iload_n C 2 dX8_rule_19 rfl rfl ?_
      refine v_bipush (v := 100) C dX8_rule_20 (by decide) ?_
      refine v_idiv C dX8_rule_22 (by decide) ?_
      refine v_top (fun x2 ex2 => ?_)
      have hx2 : x2.toInt = (y.toInt / 100) := by rw [ex2]; exact ti_div (rfl : Int32.toInt y = _) (show (100 : Int32).toInt = 100 by decide) (by omega) (by omega)
      refine v_bipush (v := 100) C dX8_rule_23 (by decide) ?_
      refine b_icmp_ge C 39 dX8_rule_25 (by decide) hx2 (show (100 : Int32).toInt = 100 by decide) (fun c3 => ?_) (fun c3 => ?_)
      · refine v_iconst (v := (-1)) C dX8_rule_39 (by decide) ?_
        exact v_ret C dX8_rule_40 rfl rfl (Or.inl ⟨by intro q; unfold okRU at q; omega, by decide, rfl⟩)
      · refine v_iload_n C 2 dX8_rule_28 rfl rfl ?_
        refine v_bipush (v := 100) C dX8_rule_29 (by decide) ?_
        refine v_idiv C dX8_rule_31 (by decide) ?_
        refine v_top (fun x4 ex4 => ?_)
        have hx4 : x4.toInt = (y.toInt / 100) := by rw [ex4]; exact ti_div (rfl : Int32.toInt y = _) (show (100 : Int32).toInt = 100 by decide) (by omega) (by omega)
        refine v_iload_n C 2 dX8_rule_32 rfl rfl ?_
        refine v_bipush (v := 100) C dX8_rule_33 (by decide) ?_
        refine v_irem C dX8_rule_35 (by decide) ?_
        refine v_top (fun x5 ex5 => ?_)
        have hx5 : x5.toInt = (y.toInt % 100) := by rw [ex5]; exact ti_rem (rfl : Int32.toInt y = _) (show (100 : Int32).toInt = 100 by decide) (by omega) (by omega)
        refine b_icmp_le C 41 dX8_rule_36 (by decide) hx4 hx5 (fun c6 => ?_) (fun c6 => ?_)
        · by_cases ho : 0 ≤ o.toInt
          · refine v_iload_n C 3 dX8_rule_41 rfl rfl ?_
            refine v_sipush (v := 1000) C dX8_rule_42 (by decide) ?_
            refine v_idiv C dX8_rule_45 (by decide) ?_
            refine v_top (fun x7 ex7 => ?_)
            have hx7 : x7.toInt = (o.toInt / 1000) := by rw [ex7]; exact ti_div (rfl : Int32.toInt o = _) (show (1000 : Int32).toInt = 1000 by decide) (by omega) (by omega)
            refine v_istore (lv' := [(0, .ref (ad 0)), (1, .int z), (2, .int y), (3, .int o), (4, .int a), (5, .int v), (6, .ref (ad b)), (7, .int x7)]) C [1, 2, 3, 4, 5, 6, 7, 0] dX8_rule_46 (by decide) rfl ?_
            refine v_iload_n C 3 dX8_rule_48 rfl rfl ?_
            refine v_bipush (v := 10) C dX8_rule_49 (by decide) ?_
            refine v_idiv C dX8_rule_51 (by decide) ?_
            refine v_top (fun x8 ex8 => ?_)
            have hx8 : x8.toInt = (o.toInt / 10) := by rw [ex8]; exact ti_div (rfl : Int32.toInt o = _) (show (10 : Int32).toInt = 10 by decide) (by omega) (by omega)
            refine v_bipush (v := 100) C dX8_rule_52 (by decide) ?_
            refine v_irem C dX8_rule_54 (by decide) ?_
            refine v_top (fun x9 ex9 => ?_)
            have hx9 : x9.toInt = ((o.toInt / 10) % 100) := by rw [ex9]; exact ti_rem hx8 (show (100 : Int32).toInt = 100 by decide) (by omega) (by omega)
            refine v_istore (lv' := [(0, .ref (ad 0)), (1, .int z), (2, .int y), (3, .int o), (4, .int a), (5, .int v), (6, .ref (ad b)), (7, .int x7), (8, .int x9)]) C [1, 2, 3, 4, 5, 6, 7, 8, 0] dX8_rule_55 (by decide) rfl ?_
            refine v_iload_n C 3 dX8_rule_57 rfl rfl ?_
            refine v_bipush (v := 10) C dX8_rule_58 (by decide) ?_
            refine v_irem C dX8_rule_60 (by decide) ?_
            refine v_top (fun x10 ex10 => ?_)
            have hx10 : x10.toInt = (o.toInt % 10) := by rw [ex10]; exact ti_rem (rfl : Int32.toInt o = _) (show (10 : Int32).toInt = 10 by decide) (by omega) (by omega)
            refine v_istore (lv' := [(0, .ref (ad 0)), (1, .int z), (2, .int y), (3, .int o), (4, .int a), (5, .int v), (6, .ref (ad b)), (7, .int x7), (8, .int x9), (9, .int x10)]) C [1, 2, 3, 4, 5, 6, 7, 8, 9, 0] dX8_rule_61 (by decide) rfl ?_
            refine v_iload_n C 3 dX8_rule_63 rfl rfl ?_
            refine b_if_lt C 109 dX8_rule_64 (by decide) (rfl : Int32.toInt o = _) (fun c11 => ?_) (fun c11 => ?_)
            · refine v_iconst (v := (-1)) C dX8_rule_109 (by decide) ?_
              exact v_ret C dX8_rule_110 rfl rfl (Or.inl ⟨by intro q; unfold okRU at q; omega, by decide, rfl⟩)
            · refine v_iload C 7 dX8_rule_67 rfl ?_
              refine v_cSp C dX8_rule_69 lX8_60 mX8_isMonth (c_isMonth l G _ ad _ x7) ⟨by decide, by decide⟩ rfl (Nat.le_of_ble_eq_true rfl) ⟨Nat.zero_le _, Nat.zero_le _⟩ (fun r12 hp13 => ?_)
              rw [hx7] at hp13
              rcases hp13 with ⟨rfl, hp13⟩ | ⟨rfl, hp13⟩
              · refine b_if_eq C 109 dX8_rule_72 (by decide) (show (1 : Int32).toInt = 1 by decide) (fun c14 => absurd c14 (by decide)) (fun c14 => ?_)
                refine v_aload_n C 0 dX8_rule_75 rfl rfl ?_
                refine v_getr C 0 dX8_rule_76 fX8_12 (by omega) hE0 rfl rfl ?_
                refine v_iload C 8 dX8_rule_79 rfl ?_
                refine v_cVp C dX8_rule_81 lX8_116 mX0_isWeekday 1 (by omega) hC1 (by decide) rfl (c_isWeekday l G _ ad _ (by omega) hC1 hC2 hC3 hC4 hC5 hP hF x9) ⟨by decide, by decide⟩ rfl (Nat.le_of_ble_eq_true rfl) ⟨Nat.zero_le _, Nat.zero_le _⟩ (fun r15 hp16 => ?_)
                rw [hx9] at hp16
                rcases hp16 with ⟨rfl, hp16⟩ | ⟨rfl, hp16⟩
                · refine b_if_eq C 109 dX8_rule_84 (by decide) (show (1 : Int32).toInt = 1 by decide) (fun c17 => absurd c17 (by decide)) (fun c17 => ?_)
                  refine v_iload C 9 dX8_rule_87 rfl ?_
                  refine v_iconst (v := 4) C dX8_rule_89 (by decide) ?_
                  refine b_icmp_gt C 109 dX8_rule_90 (by decide) hx10 (show (4 : Int32).toInt = 4 by decide) (fun c18 => ?_) (fun c18 => ?_)
                  · refine v_iconst (v := (-1)) C dX8_rule_109 (by decide) ?_
                    exact v_ret C dX8_rule_110 rfl rfl (Or.inl ⟨by intro q; unfold okRU at q; omega, by decide, rfl⟩)
                  · refine v_iload C 4 dX8_rule_93 rfl ?_
                    refine v_cSp C dX8_rule_95 lX8_136 mX8_isMinute (c_isMinute l G _ ad _ a) ⟨by decide, by decide⟩ rfl (Nat.le_of_ble_eq_true rfl) ⟨Nat.zero_le _, Nat.zero_le _⟩ (fun r19 hp20 => ?_)
                    rcases hp20 with ⟨rfl, hp20⟩ | ⟨rfl, hp20⟩
                    · refine b_if_eq C 109 dX8_rule_98 (by decide) (show (1 : Int32).toInt = 1 by decide) (fun c21 => absurd c21 (by decide)) (fun c21 => ?_)
                      refine v_iload C 5 dX8_rule_101 rfl ?_
                      refine v_cSp C dX8_rule_103 lX8_123 mX8_isOffset (c_isOffset l G _ ad _ v) ⟨by decide, by decide⟩ rfl (Nat.le_of_ble_eq_true rfl) ⟨Nat.zero_le _, Nat.zero_le _⟩ (fun r22 hp23 => ?_)
                      rcases hp23 with ⟨rfl, hp23⟩ | ⟨rfl, hp23⟩
                      · refine b_if_ne C 111 dX8_rule_106 (by decide) (show (1 : Int32).toInt = 1 by decide) (fun c24 => ?_) (fun c24 => absurd c24 (by decide))
                        refine v_aload C 6 dX8_rule_111 rfl ?_
                        refine v_geti (v := ib 8) C b dX8_rule_113 fX8_139 (by omega) hB rfl rfl ?_
                        refine v_bipush (v := 8) C dX8_rule_116 (by decide) ?_
                        refine b_icmp_lt C 124 dX8_rule_118 (by decide) e8 (show (8 : Int32).toInt = 8 by decide) (fun c25 => ?_) (fun c25 => ?_)
                        · refine v_aload C 6 dX8_rule_124 rfl ?_
                          refine v_aload_n C 0 dX8_rule_126 rfl rfl ?_
                          refine v_geti (v := io 6) C 0 dX8_rule_127 fX8_144 (by omega) hE0 rfl rfl ?_
                          refine v_iload C 5 dX8_rule_130 rfl ?_
                          refine v_cVi C dX8_rule_132 lX8_147 mX6_tell b (by omega) hB (by decide) rfl (z_tell l G (98 + 9 * k) ad _ b hb hB h1 h2 e8 (by omega) (io 6) v) ⟨by decide, by decide⟩ rfl (Nat.le_of_ble_eq_true rfl) ⟨Nat.zero_le _, Nat.zero_le _⟩ (fun r26 E27 hq28 => ?_)
                          obtain ⟨hrR, n2, hn2, gB, g1, g2, hOt⟩ := hq28
                          have hn8 : (va_up ib 8 n2 8).toInt = (R : Int) + 1 := by rw [show va_up ib 8 n2 8 = n2 by simp [va_up]]; exact hn2
                          have hE27_0 := (hOt 0 (by omega) (by omega) (by omega)).trans hE0
                          have hE27_6 := (hOt 6 (by omega) (by omega) (by omega)).trans hE6
                          have hE27_45 := (hOt 45 (by omega) (by omega) (by omega)).trans hE45
                          have hE27_1 := (hOt 1 (by omega) (by omega) (by omega)).trans hC1
                          have hE27_2 := (hOt 2 (by omega) (by omega) (by omega)).trans hC2
                          have hE27_3 := (hOt 3 (by omega) (by omega) (by omega)).trans hC3
                          have hE27_4 := (hOt 4 (by omega) (by omega) (by omega)).trans hC4
                          have hE27_5 := (hOt 5 (by omega) (by omega) (by omega)).trans hC5
                          have hE27_b3 := (hOt (b + 3) (by omega) (by omega) (by omega)).trans h3
                          have hE27_b4 := (hOt (b + 4) (by omega) (by omega) (by omega)).trans h4
                          have hE27_b5 := (hOt (b + 5) (by omega) (by omega) (by omega)).trans h5
                          have hE27_b6 := (hOt (b + 6) (by omega) (by omega) (by omega)).trans h6
                          have hE27_b7 := (hOt (b + 7) (by omega) (by omega) (by omega)).trans h7
                          have hE27_b8 := (hOt (b + 8) (by omega) (by omega) (by omega)).trans h8
                          refine v_istore (lv' := [(0, .ref (ad 0)), (1, .int z), (2, .int y), (3, .int o), (4, .int a), (5, .int v), (6, .ref (ad b)), (7, .int x7), (8, .int x9), (9, .int x10), (10, .int r26)]) C [1, 2, 3, 4, 5, 6, 7, 8, 9, 10, 0] dX8_rule_135 (by decide) rfl ?_
                          refine v_iload_n C 2 dX8_rule_137 rfl rfl ?_
                          refine v_bipush (v := 100) C dX8_rule_138 (by decide) ?_
                          refine v_idiv C dX8_rule_140 (by decide) ?_
                          refine v_top (fun x29 ex29 => ?_)
                          have hx29 : x29.toInt = (y.toInt / 100) := by rw [ex29]; exact ti_div (rfl : Int32.toInt y = _) (show (100 : Int32).toInt = 100 by decide) (by omega) (by omega)
                          refine v_istore (lv' := [(0, .ref (ad 0)), (1, .int z), (2, .int y), (3, .int o), (4, .int a), (5, .int v), (6, .ref (ad b)), (7, .int x7), (8, .int x9), (9, .int x10), (10, .int r26), (11, .int x29)]) C [1, 2, 3, 4, 5, 6, 7, 8, 9, 10, 11, 0] dX8_rule_141 (by decide) rfl ?_
                          have LP30 : ∀ (t : Nat) (y1 : Nat) (y31 : Int32) (E32 : Nat → va_E) (rw1 : Nat → Int32), (y31.toInt = (y1 : Int)) → (E32 (b + 3) = aI G 800 rw1) → (∀ j, j ≠ (b + 3) → E32 j = E27 j) → (y.toInt / 100 ≤ (y1 : Int)) → ((y1 : Int) ≤ y.toInt % 100 + 1) → (∀ q, (q < 100 * R ∨ 100 * R + 100 ≤ q) → rw1 q = rw0 q) → (∀ q, q < 100 → (rw1 (100 * R + q)).toInt = RWr ic md (y.toInt / 100) o.toInt a.toInt y1 q) → y.toInt % 100 + 1 - (y1 : Int) < (t : Int) → V X G A 13 (QI X G A (98 + 9 * k) ad (fun r E' => (¬ okRU k (ic 7).toInt z.toInt y.toInt o.toInt a.toInt v.toInt ∧ r.toInt = -1 ∧ E = E') ∨ (okRU k (ic 7).toInt z.toInt y.toInt o.toInt a.toInt v.toInt ∧ (∃ i : Nat, z.toInt = (i : Int) ∧ (rm i).toInt = 8) ∧ r.toInt = -2 ∧ E = E') ∨ (okRU k (ic 7).toInt z.toInt y.toInt o.toInt a.toInt v.toInt ∧ ∃ i R : Nat, z.toInt = (i : Int) ∧ i < k ∧ (rm i).toInt = (R : Int) ∧ R < 8 ∧ r.toInt = (R : Int) + 1 ∧ (∀ f t n1 : Int32, f.toInt = y.toInt / 100 → t.toInt = y.toInt % 100 → n1.toInt = (R : Int) + 1 → ZN1 G ad (98 + 9 * i) i ic md (upd rf (8 * i + R) f) (upd rto (8 * i + R) t) (upd ron (8 * i + R) o) (upd rat (8 * i + R) a) (upd rbe (8 * i + R) v) (upd rtd (8 * i + R) td) (upd rm i n1) fv E') ∧ E' 45 = ob 4 (rfs ad [46, 47]) (va_up iq 5 0) ∧ ∀ j, j ≠ 45 → (j < 98 + 9 * i ∨ 98 + 9 * i + 9 ≤ j) → E' j = E j))) (98 + 9 * k) ad 0 0 E32 143 [(0, .ref (ad 0)), (1, .int z), (2, .int y), (3, .int o), (4, .int a), (5, .int v), (6, .ref (ad b)), (7, .int x7), (8, .int x9), (9, .int x10), (10, .int r26), (11, .int y31)] [] := by
                            intro t38
                            induction t38 with
                            | zero => intro y1 y31 E32 rw1 hy31 hE32_b3 hfr33 hq34 hq35 hq36 hq37 hm40; exfalso; omega
                            | succ t38 ih39 =>
                              intro y1 y31 E32 rw1 hy31 hE32_b3 hfr33 hq34 hq35 hq36 hq37 hm40
                              have hE32_0 := (hfr33 0 (by omega)).trans hE27_0
                              have hE32_6 := (hfr33 6 (by omega)).trans hE27_6
                              have hE32_45 := (hfr33 45 (by omega)).trans hE27_45
                              have hE32_1 := (hfr33 1 (by omega)).trans hE27_1
                              have hE32_2 := (hfr33 2 (by omega)).trans hE27_2
                              have hE32_3 := (hfr33 3 (by omega)).trans hE27_3
                              have hE32_4 := (hfr33 4 (by omega)).trans hE27_4
                              have hE32_5 := (hfr33 5 (by omega)).trans hE27_5
                              have hE32_b := (hfr33 b (by omega)).trans gB
                              have hE32_b1 := (hfr33 (b + 1) (by omega)).trans g1
                              have hE32_b2 := (hfr33 (b + 2) (by omega)).trans g2
                              have hE32_b4 := (hfr33 (b + 4) (by omega)).trans hE27_b4
                              have hE32_b5 := (hfr33 (b + 5) (by omega)).trans hE27_b5
                              have hE32_b6 := (hfr33 (b + 6) (by omega)).trans hE27_b6
                              have hE32_b7 := (hfr33 (b + 7) (by omega)).trans hE27_b7
                              have hE32_b8 := (hfr33 (b + 8) (by omega)).trans hE27_b8
                              refine v_iload C 11 dX8_rule_143 rfl ?_
                              refine v_iload_n C 2 dX8_rule_145 rfl rfl ?_
                              refine v_bipush (v := 100) C dX8_rule_146 (by decide) ?_
                              refine v_irem C dX8_rule_148 (by decide) ?_
                              refine v_top (fun x41 ex41 => ?_)
                              have hx41 : x41.toInt = (y.toInt % 100) := by rw [ex41]; exact ti_rem (rfl : Int32.toInt y = _) (show (100 : Int32).toInt = 100 by decide) (by omega) (by omega)
                              refine b_icmp_gt C 204 dX8_rule_149 (by decide) hy31 hx41 (fun c42 => ?_) (fun c42 => ?_)
                              · refine v_aload_n C 0 dX8_rule_204 rfl rfl ?_
                                refine v_getr C 0 dX8_rule_205 fX8_33 (by omega) hE32_0 rfl rfl ?_
                                refine v_cVv C dX8_rule_208 lX8_126 mX4_forget 45 (by omega) hE32_45 (by decide) rfl (c_forget l G _ ad _ (by omega) hE32_45) ⟨by decide, by decide⟩ rfl (Nat.le_of_ble_eq_true rfl) ⟨Nat.zero_le _, Nat.zero_le _⟩ (fun E43 hq44 => ?_)
                                obtain ⟨g45, hOf⟩ := hq44
                                have hE43_0 := (hOf 0 (by omega)).trans hE32_0
                                have hE43_6 := (hOf 6 (by omega)).trans hE32_6
                                have hE43_1 := (hOf 1 (by omega)).trans hE32_1
                                have hE43_2 := (hOf 2 (by omega)).trans hE32_2
                                have hE43_3 := (hOf 3 (by omega)).trans hE32_3
                                have hE43_4 := (hOf 4 (by omega)).trans hE32_4
                                have hE43_5 := (hOf 5 (by omega)).trans hE32_5
                                have hE43_b := (hOf b (by omega)).trans hE32_b
                                have hE43_b1 := (hOf (b + 1) (by omega)).trans hE32_b1
                                have hE43_b2 := (hOf (b + 2) (by omega)).trans hE32_b2
                                have hE43_b3 := (hOf (b + 3) (by omega)).trans hE32_b3
                                have hE43_b4 := (hOf (b + 4) (by omega)).trans hE32_b4
                                have hE43_b5 := (hOf (b + 5) (by omega)).trans hE32_b5
                                have hE43_b6 := (hOf (b + 6) (by omega)).trans hE32_b6
                                have hE43_b7 := (hOf (b + 7) (by omega)).trans hE32_b7
                                have hE43_b8 := (hOf (b + 8) (by omega)).trans hE32_b8
                                refine v_aload C 6 dX8_rule_211 rfl ?_
                                refine v_geti (v := (va_up ib 8 n2) 8) C b dX8_rule_213 fX8_139 (by omega) hE43_b rfl rfl ?_
                                refine v_ret C dX8_rule_216 rfl rfl (Or.inr (Or.inr ⟨by unfold okRU; omega, i, R, hzi, hk, eR, by omega, hn8, fun f t n1 e1 e2 e3 => ?_, g45, fun j q1 q2 => ((hOf j q1).trans ((hfr33 j (by omega)).trans (hOt j (by omega) (by omega) (by omega))))⟩))
                                rw [← eb, ← htd]
                                exact ZN1_tell (Y := y1) hE43_b hE43_b1 hE43_b2 hE43_b3 hE43_b4 hE43_b5 hE43_b6 hE43_b7 hE43_b8 hn2 (by omega) e9 hrt s0 v0 hto hrw hq36 hq37 (by omega) hZR hEN e1 e2 e3
                              · refine v_aload_n C 0 dX8_rule_152 rfl rfl ?_
                                refine v_getr C 0 dX8_rule_153 fX8_12 (by omega) hE32_0 rfl rfl ?_
                                refine v_iload C 11 dX8_rule_156 rfl ?_
                                refine v_iload C 7 dX8_rule_158 rfl ?_
                                refine v_iload C 8 dX8_rule_160 rfl ?_
                                refine v_iload C 9 dX8_rule_162 rfl ?_
                                refine v_cVp C dX8_rule_164 lX8_119 mX0_nthWeekday 1 (by omega) hE32_1 (by decide) rfl (c_nthWeekday l G _ ad _ (by omega) hE32_1 hE32_2 hE32_3 hE32_4 hE32_5 hP hF y31 x7 x9 x10 (yy := y1) (mm := (o.toInt / 1000).toNat) hy31 (by have := hx7; omega) (by omega) (by omega) (by have := hx9; omega) (by have := hx9; omega) (by have := hx10; omega) (by have := hx10; omega)) ⟨by decide, by decide⟩ rfl (Nat.le_of_ble_eq_true rfl) ⟨Nat.zero_le _, Nat.zero_le _⟩ (fun r45 hp46 => ?_)
                                rw [hx9, hx10] at hp46
                                have hNb := NW_d hP (k := 12 * y1 + (o.toInt / 1000).toNat) (by omega) (wd := o.toInt / 10 % 100) (n := o.toInt % 10) (by omega)
                                refine v_istore (lv' := [(0, .ref (ad 0)), (1, .int z), (2, .int y), (3, .int o), (4, .int a), (5, .int v), (6, .ref (ad b)), (7, .int x7), (8, .int x9), (9, .int x10), (10, .int r26), (11, .int y31), (12, .int r45)]) C [1, 2, 3, 4, 5, 6, 7, 8, 9, 10, 11, 12, 0] dX8_rule_167 (by decide) rfl ?_
                                refine v_iload C 12 dX8_rule_169 rfl ?_
                                refine v_iconst (v := (-1)) C dX8_rule_171 (by decide) ?_
                                refine b_icmp_eq C 198 dX8_rule_172 (by decide) hp46 (show ((-1) : Int32).toInt = (-1) by decide) (fun c47 => ?_) (fun c47 => ?_)
                                · obtain ⟨x48, ex48⟩ : ∃ y : Int32, y = y31 + 1 := ⟨_, rfl⟩
                                  have hx48 : x48.toInt = ((y1 : Int) + 1) := by rw [ex48]; exact ti_add hy31 (show (1 : Int32).toInt = 1 by decide) (by omega) (by omega)
                                  refine v_iinc (v := x48) (lv' := [(0, .ref (ad 0)), (1, .int z), (2, .int y), (3, .int o), (4, .int a), (5, .int v), (6, .ref (ad b)), (7, .int x7), (8, .int x9), (9, .int x10), (10, .int r26), (11, .int x48), (12, .int r45)]) C 11 [1, 2, 3, 4, 5, 6, 7, 8, 9, 10, 11, 0, 12] dX8_rule_198 rfl (ex48.symm) (by decide) rfl ?_
                                  refine v_goto C 143 dX8_rule_201 (by decide) ?_
                                  refine v_sub (lv' := [(0, .ref (ad 0)), (1, .int z), (2, .int y), (3, .int o), (4, .int a), (5, .int v), (6, .ref (ad b)), (7, .int x7), (8, .int x9), (9, .int x10), (10, .int r26), (11, .int x48)]) [0, 1, 2, 3, 4, 5, 6, 7, 8, 9, 10, 11] rfl ?_
                                  exact ih39 (y1 + 1) x48 E32 rw1 (show Int32.toInt x48 = ((y1 + 1 : Nat) : Int) by have := hx48; omega) hE32_b3 (fun j g0 => (hfr33 j g0)) (by omega) (by omega) (hq36) (fun q hq => by by_cases e : q = y1; (rw [e, RWr_no (by omega)]; exact hq37 y1 (by omega)); (rw [RWr_ne e]; exact hq37 q hq)) (by omega)
                                · refine v_aload C 6 dX8_rule_175 rfl ?_
                                  refine v_getr C b dX8_rule_177 fX8_150 (by omega) hE32_b rfl rfl ?_
                                  refine v_iload C 10 dX8_rule_180 rfl ?_
                                  refine v_bipush (v := 100) C dX8_rule_182 (by decide) ?_
                                  refine v_imul C dX8_rule_184 ?_
                                  refine v_top (fun x49 ex49 => ?_)
                                  have hx49 : x49.toInt = ((R : Int) * 100) := by rw [ex49]; exact ti_mul hrR (show (100 : Int32).toInt = 100 by decide) (by omega) (by omega)
                                  refine v_iload C 11 dX8_rule_185 rfl ?_
                                  refine v_iadd C dX8_rule_187 ?_
                                  refine v_top (fun x50 ex50 => ?_)
                                  have hx50 : x50.toInt = (((R : Int) * 100) + (y1 : Int)) := by rw [ex50]; exact ti_add hx49 hy31 (by omega) (by omega)
                                  refine v_iload C 12 dX8_rule_188 rfl ?_
                                  refine v_sipush (v := 1440) C dX8_rule_190 (by decide) ?_
                                  refine v_imul C dX8_rule_193 ?_
                                  refine v_top (fun x51 ex51 => ?_)
                                  have hx51 : x51.toInt = ((NWf ic md (12 * y1 + (o.toInt / 1000).toNat) (o.toInt / 10 % 100) (o.toInt % 10)) * 1440) := by rw [ex51]; exact ti_mul hp46 (show (1440 : Int32).toInt = 1440 by decide) (by omega) (by omega)
                                  refine v_iload C 4 dX8_rule_194 rfl ?_
                                  refine v_iadd C dX8_rule_196 ?_
                                  refine v_top (fun x52 ex52 => ?_)
                                  have hx52 : x52.toInt = (((NWf ic md (12 * y1 + (o.toInt / 1000).toNat) (o.toInt / 10 % 100) (o.toInt % 10)) * 1440) + a.toInt) := by rw [ex52]; exact ti_add hx51 (rfl : Int32.toInt a = _) (by omega) (by omega)
                                  refine v_ast C (b + 3) dX8_rule_197 (by omega) hE32_b3 (ti_in hx50 (by omega) (by omega)) (fun E53 hE53_b3 oE53 => ?_)
                                  rw [ti_cl hx50, show Int.toNat (((R : Int) * 100) + (y1 : Int)) = 100 * R + y1 by omega] at hE53_b3
                                  have hE53_0 := (oE53 0 (by omega)).trans hE32_0
                                  have hE53_6 := (oE53 6 (by omega)).trans hE32_6
                                  have hE53_45 := (oE53 45 (by omega)).trans hE32_45
                                  have hE53_1 := (oE53 1 (by omega)).trans hE32_1
                                  have hE53_2 := (oE53 2 (by omega)).trans hE32_2
                                  have hE53_3 := (oE53 3 (by omega)).trans hE32_3
                                  have hE53_4 := (oE53 4 (by omega)).trans hE32_4
                                  have hE53_5 := (oE53 5 (by omega)).trans hE32_5
                                  have hE53_b := (oE53 b (by omega)).trans hE32_b
                                  have hE53_b1 := (oE53 (b + 1) (by omega)).trans hE32_b1
                                  have hE53_b2 := (oE53 (b + 2) (by omega)).trans hE32_b2
                                  have hE53_b4 := (oE53 (b + 4) (by omega)).trans hE32_b4
                                  have hE53_b5 := (oE53 (b + 5) (by omega)).trans hE32_b5
                                  have hE53_b6 := (oE53 (b + 6) (by omega)).trans hE32_b6
                                  have hE53_b7 := (oE53 (b + 7) (by omega)).trans hE32_b7
                                  have hE53_b8 := (oE53 (b + 8) (by omega)).trans hE32_b8
                                  obtain ⟨x54, ex54⟩ : ∃ y : Int32, y = y31 + 1 := ⟨_, rfl⟩
                                  have hx54 : x54.toInt = ((y1 : Int) + 1) := by rw [ex54]; exact ti_add hy31 (show (1 : Int32).toInt = 1 by decide) (by omega) (by omega)
                                  refine v_iinc (v := x54) (lv' := [(0, .ref (ad 0)), (1, .int z), (2, .int y), (3, .int o), (4, .int a), (5, .int v), (6, .ref (ad b)), (7, .int x7), (8, .int x9), (9, .int x10), (10, .int r26), (11, .int x54), (12, .int r45)]) C 11 [1, 2, 3, 4, 5, 6, 7, 8, 9, 10, 11, 0, 12] dX8_rule_198 rfl (ex54.symm) (by decide) rfl ?_
                                  refine v_goto C 143 dX8_rule_201 (by decide) ?_
                                  refine v_sub (lv' := [(0, .ref (ad 0)), (1, .int z), (2, .int y), (3, .int o), (4, .int a), (5, .int v), (6, .ref (ad b)), (7, .int x7), (8, .int x9), (9, .int x10), (10, .int r26), (11, .int x54)]) [0, 1, 2, 3, 4, 5, 6, 7, 8, 9, 10, 11] rfl ?_
                                  exact ih39 (y1 + 1) x54 E53 (upd rw1 (100 * R + y1) x52) (show Int32.toInt x54 = ((y1 + 1 : Nat) : Int) by have := hx54; omega) hE53_b3 (fun j g0 => ((oE53 j g0).trans (hfr33 j g0))) (by omega) (by omega) (fun q hq => (upd_ne (by omega)).trans (hq36 q hq)) (fun q hq => by by_cases e : q = y1; (rw [e, upd_same, RWr_yes (by omega) (by omega)]; exact by have := hx52; omega); (rw [upd_ne (by omega), RWr_ne e]; exact hq37 q hq)) (by omega)
                          exact LP30 100000 ((y.toInt / 100).toNat) x29 E27 rw0 (show Int32.toInt x29 = (((y.toInt / 100).toNat : Nat) : Int) by have := hx29; omega) hE27_b3 (fun j _ => rfl) (by omega) (by omega) (fun q _ => rfl) (fun q hq => by rw [hrw R q (by omega) hq, RWr_0 (by omega)]; unfold WZ; rw [if_neg (by omega)]) (by omega)
                        · refine v_bipush (v := (-2)) C dX8_rule_121 (by decide) ?_
                          exact v_ret C dX8_rule_123 rfl rfl (Or.inr (Or.inl ⟨by unfold okRU; omega, ⟨i, hzi, by omega⟩, by decide, rfl⟩))
                      · refine b_if_ne C 111 dX8_rule_106 (by decide) (show (0 : Int32).toInt = 0 by decide) (fun c55 => absurd c55 (by decide)) (fun c55 => ?_)
                        refine v_iconst (v := (-1)) C dX8_rule_109 (by decide) ?_
                        exact v_ret C dX8_rule_110 rfl rfl (Or.inl ⟨by intro q; unfold okRU at q; omega, by decide, rfl⟩)
                    · refine b_if_eq C 109 dX8_rule_98 (by decide) (show (0 : Int32).toInt = 0 by decide) (fun c56 => ?_) (fun c56 => absurd c56 (by decide))
                      refine v_iconst (v := (-1)) C dX8_rule_109 (by decide) ?_
                      exact v_ret C dX8_rule_110 rfl rfl (Or.inl ⟨by intro q; unfold okRU at q; omega, by decide, rfl⟩)
                · refine b_if_eq C 109 dX8_rule_84 (by decide) (show (0 : Int32).toInt = 0 by decide) (fun c57 => ?_) (fun c57 => absurd c57 (by decide))
                  refine v_iconst (v := (-1)) C dX8_rule_109 (by decide) ?_
                  exact v_ret C dX8_rule_110 rfl rfl (Or.inl ⟨by intro q; unfold okRU at q; omega, by decide, rfl⟩)
              · refine b_if_eq C 109 dX8_rule_72 (by decide) (show (0 : Int32).toInt = 0 by decide) (fun c58 => ?_) (fun c58 => absurd c58 (by decide))
                refine v_iconst (v := (-1)) C dX8_rule_109 (by decide) ?_
                exact v_ret C dX8_rule_110 rfl rfl (Or.inl ⟨by intro q; unfold okRU at q; omega, by decide, rfl⟩)
          · refine v_iload_n C 3 dX8_rule_41 rfl rfl ?_
            refine v_sipush (v := 1000) C dX8_rule_42 (by decide) ?_
            refine v_idiv C dX8_rule_45 (by decide) ?_
            refine v_top (fun x59 _ => ?_)
            refine v_istore (lv' := [(0, .ref (ad 0)), (1, .int z), (2, .int y), (3, .int o), (4, .int a), (5, .int v), (6, .ref (ad b)), (7, .int x59)]) C [1, 2, 3, 4, 5, 6, 7, 0] dX8_rule_46 (by decide) rfl ?_
            refine v_iload_n C 3 dX8_rule_48 rfl rfl ?_
            refine v_bipush (v := 10) C dX8_rule_49 (by decide) ?_
            refine v_idiv C dX8_rule_51 (by decide) ?_
            refine v_top (fun x60 _ => ?_)
            refine v_bipush (v := 100) C dX8_rule_52 (by decide) ?_
            refine v_irem C dX8_rule_54 (by decide) ?_
            refine v_top (fun x61 _ => ?_)
            refine v_istore (lv' := [(0, .ref (ad 0)), (1, .int z), (2, .int y), (3, .int o), (4, .int a), (5, .int v), (6, .ref (ad b)), (7, .int x59), (8, .int x61)]) C [1, 2, 3, 4, 5, 6, 7, 8, 0] dX8_rule_55 (by decide) rfl ?_
            refine v_iload_n C 3 dX8_rule_57 rfl rfl ?_
            refine v_bipush (v := 10) C dX8_rule_58 (by decide) ?_
            refine v_irem C dX8_rule_60 (by decide) ?_
            refine v_top (fun x62 _ => ?_)
            refine v_istore (lv' := [(0, .ref (ad 0)), (1, .int z), (2, .int y), (3, .int o), (4, .int a), (5, .int v), (6, .ref (ad b)), (7, .int x59), (8, .int x61), (9, .int x62)]) C [1, 2, 3, 4, 5, 6, 7, 8, 9, 0] dX8_rule_61 (by decide) rfl ?_
            refine v_iload_n C 3 dX8_rule_63 rfl rfl ?_
            refine b_if_lt C 109 dX8_rule_64 (by decide) (rfl : Int32.toInt o = _) (fun c63 => ?_) (fun c63 => ?_)
            · refine v_iconst (v := (-1)) C dX8_rule_109 (by decide) ?_
              exact v_ret C dX8_rule_110 rfl rfl (Or.inl ⟨by intro q; unfold okRU at q; omega, by decide, rfl⟩)
            · exact absurd (show 0 ≤ o.toInt by omega) ho
        · refine v_iconst (v := (-1)) C dX8_rule_39 (by decide) ?_
          exact v_ret C dX8_rule_40 rfl rfl (Or.inl ⟨by intro q; unfold okRU at q; omega, by decide, rfl⟩)

