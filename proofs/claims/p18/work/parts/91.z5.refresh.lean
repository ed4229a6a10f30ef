set_option maxRecDepth 20000 in
theorem z_takeC (l : Launch) (G : Gl) (n : Nat) (ad : Nat → Nat) (E : Nat → va_E) (b : Nat) (hb : b + 9 ≤ n) {ib : Nat → Int32} (hB : E b = ob 6 (rfs ad [b + 1, b + 2, b + 3, b + 4, b + 5, b + 6, b + 7, b + 8]) ib) {ro : Nat → Int32} (h2 : E (b + 2) = aI G 8 ro) {rw1 : Nat → Int32} (h3 : E (b + 3) = aI G 800 rw1) {yw : Nat → Int32} (h4 : E (b + 4) = aI G 8 yw) {yo : Nat → Int32} (h5 : E (b + 5) = aI G 8 yo) {ss : Nat → Int32} (h6 : E (b + 6) = aI G 801 ss) {se : Nat → Int32} (h7 : E (b + 7) = aI G 801 se) {os : Nat → Int32} (h8 : E (b + 8) = aI G 801 os) {rt : Nat} (hrt : (ib 9).toInt = (rt : Int)) (hr8 : rt ≤ 8) (hs0 : (ss 0).toInt = 0) (hv0 : -720 ≤ (os 0).toInt ∧ (os 0).toInt ≤ 720) {D : Int} (hD : 0 ≤ D ∧ D ≤ 69300000) (hWB : WBp (fun r y => (rw1 (100 * r + y)).toInt) (fun r => (ro r).toInt) rt D) : CtV l G yX6_takeChanges cX6_takeChanges 4 1 27 (n) ad E [.ref (ad b)] (fun E' => ∃ ib1 yw1 yo1 ss1 se1 os1 : Nat → Int32, E' b = ob 6 (rfs ad [b + 1, b + 2, b + 3, b + 4, b + 5, b + 6, b + 7, b + 8]) ib1 ∧ (∀ q, q ≠ 10 → ib1 q = ib q) ∧ E' (b + 4) = aI G 8 yw1 ∧ E' (b + 5) = aI G 8 yo1 ∧ E' (b + 6) = aI G 801 ss1 ∧ E' (b + 7) = aI G 801 se1 ∧ E' (b + 8) = aI G 801 os1 ∧ ZR (ib1 10).toInt ss1 os1 (TKl (os 0).toInt (alL (fun r y => (rw1 (100 * r + y)).toInt) (fun r => (ro r).toInt) rt 100)) ∧ ENp (ib1 10).toInt ss1 se1 ∧ ∀ j, j ≠ b → j ≠ b + 4 → j ≠ b + 5 → j ≠ b + 6 → j ≠ b + 7 → j ≠ b + 8 → E' j = E j) := by
  refine CtV.of (by decide) (Nat.le_of_ble_eq_true rfl) (fun X A C => ?_)
  refine v_sub (lv' := [(0, .ref (ad b))]) [0] rfl ?_
  refine v_aload_n C 0 dX6_takeChanges_0 rfl rfl ?_
  refine v_iconst (v := 0) C dX6_takeChanges_1 (by decide) ?_
  refine v_puti C b dX6_takeChanges_2 fX6_47 (by omega) hB rfl rfl rfl rfl (fun E1 hE1_b oE1 => ?_)
  have hE1_b2 := (oE1 (b + 2) (by omega)).trans h2
  have hE1_b3 := (oE1 (b + 3) (by omega)).trans h3
  have hE1_b4 := (oE1 (b + 4) (by omega)).trans h4
  have hE1_b5 := (oE1 (b + 5) (by omega)).trans h5
  have hE1_b6 := (oE1 (b + 6) (by omega)).trans h6
  have hE1_b7 := (oE1 (b + 7) (by omega)).trans h7
  have hE1_b8 := (oE1 (b + 8) (by omega)).trans h8
  refine v_iconst (v := 0) C dX6_takeChanges_5 (by decide) ?_
  refine v_istore_n (lv' := [(0, .ref (ad b)), (1, .int 0)]) C [1, 0] dX6_takeChanges_6 rfl (by decide) rfl ?_
  have LP2 : ∀ (t : Nat) (y1 : Nat) (y3 : Int32) (E4 : Nat → va_E) (ib1 : Nat → Int32) (yw1 : Nat → Int32) (yo1 : Nat → Int32) (ss1 : Nat → Int32) (os1 : Nat → Int32), (y3.toInt = (y1 : Int)) → (E4 b = ob 6 (rfs ad [b + 1, b + 2, b + 3, b + 4, b + 5, b + 6, b + 7, b + 8]) ib1) → (E4 (b + 4) = aI G 8 yw1) → (E4 (b + 5) = aI G 8 yo1) → (E4 (b + 6) = aI G 801 ss1) → (E4 (b + 8) = aI G 801 os1) → (∀ j, j ≠ b → j ≠ (b + 4) → j ≠ (b + 5) → j ≠ (b + 6) → j ≠ (b + 8) → E4 j = E1 j) → (y1 ≤ 100) → (∀ q, q ≠ 10 → ib1 q = ib q) → (ZR (ib1 10).toInt ss1 os1 (TKl (os 0).toInt (alL (fun r y => (rw1 (100 * r + y)).toInt) (fun r => (ro r).toInt) rt y1))) → 100 - (y1 : Int) < (t : Int) → V X G A 4 (QV X G A (n) ad (fun E' => ∃ ib1 yw1 yo1 ss1 se1 os1 : Nat → Int32, E' b = ob 6 (rfs ad [b + 1, b + 2, b + 3, b + 4, b + 5, b + 6, b + 7, b + 8]) ib1 ∧ (∀ q, q ≠ 10 → ib1 q = ib q) ∧ E' (b + 4) = aI G 8 yw1 ∧ E' (b + 5) = aI G 8 yo1 ∧ E' (b + 6) = aI G 801 ss1 ∧ E' (b + 7) = aI G 801 se1 ∧ E' (b + 8) = aI G 801 os1 ∧ ZR (ib1 10).toInt ss1 os1 (TKl (os 0).toInt (alL (fun r y => (rw1 (100 * r + y)).toInt) (fun r => (ro r).toInt) rt 100)) ∧ ENp (ib1 10).toInt ss1 se1 ∧ ∀ j, j ≠ b → j ≠ b + 4 → j ≠ b + 5 → j ≠ b + 6 → j ≠ b + 7 → j ≠ b + 8 → E' j = E j)) (n) ad 0 0 E4 7 [(0, .ref (ad b)), (1, .int y3)] [] := by
    intro t9
    induction t9 with
    | zero => intro y1 y3 E4 ib1 yw1 yo1 ss1 os1 hy3 hE4_b hE4_b4 hE4_b5 hE4_b6 hE4_b8 hfr5 hq6 hq7 hq8 hm11; exfalso; omega
    | succ t9 ih10 =>
      intro y1 y3 E4 ib1 yw1 yo1 ss1 os1 hy3 hE4_b hE4_b4 hE4_b5 hE4_b6 hE4_b8 hfr5 hq6 hq7 hq8 hm11
      have hE4_b2 := (hfr5 (b + 2) (by omega) (by omega) (by omega) (by omega) (by omega)).trans hE1_b2
      have hE4_b3 := (hfr5 (b + 3) (by omega) (by omega) (by omega) (by omega) (by omega)).trans hE1_b3
      have hE4_b7 := (hfr5 (b + 7) (by omega) (by omega) (by omega) (by omega) (by omega)).trans hE1_b7
      refine v_iload_n C 1 dX6_takeChanges_7 rfl rfl ?_
      refine v_bipush (v := 100) C dX6_takeChanges_8 (by decide) ?_
      refine b_icmp_ge C 54 dX6_takeChanges_10 (by decide) hy3 (show (100 : Int32).toInt = 100 by decide) (fun c12 => ?_) (fun c12 => ?_)
      · have hzc := (hq8).1
        have hlen := (TK_ok hv0 hD.1 (alL (fun r y => (rw1 (100 * r + y)).toInt) (fun r => (ro r).toInt) rt y1) (fun p hp => by have q := al_bd hWB y1 (by omega) p hp; exact ⟨q.1.2, q.2⟩)).2
        have hlen2 := al_len (W := (fun r y => (rw1 (100 * r + y)).toInt)) (B := (fun r => (ro r).toInt)) (m := rt) y1
        have hry : rt * y1 ≤ 8 * y1 := Nat.mul_le_mul_right y1 hr8
        refine v_iconst (v := 0) C dX6_takeChanges_54 (by decide) ?_
        refine v_istore_n (lv' := [(0, .ref (ad b)), (1, .int 0)]) C [1, 0] dX6_takeChanges_55 rfl (by decide) rfl ?_
        have LP13 : ∀ (t : Nat) (j1 : Nat) (y14 : Int32) (E15 : Nat → va_E) (se1 : Nat → Int32), (y14.toInt = (j1 : Int)) → (E15 (b + 7) = aI G 801 se1) → (∀ j, j ≠ (b + 7) → E15 j = E4 j) → ((j1 : Int) ≤ (ib1 10).toInt) → (∀ q, q < j1 → (se1 q).toInt = mn60 (ss1 (q + 1)).toInt) → (ib1 10).toInt - (j1 : Int) < (t : Int) → V X G A 4 (QV X G A (n) ad (fun E' => ∃ ib1 yw1 yo1 ss1 se1 os1 : Nat → Int32, E' b = ob 6 (rfs ad [b + 1, b + 2, b + 3, b + 4, b + 5, b + 6, b + 7, b + 8]) ib1 ∧ (∀ q, q ≠ 10 → ib1 q = ib q) ∧ E' (b + 4) = aI G 8 yw1 ∧ E' (b + 5) = aI G 8 yo1 ∧ E' (b + 6) = aI G 801 ss1 ∧ E' (b + 7) = aI G 801 se1 ∧ E' (b + 8) = aI G 801 os1 ∧ ZR (ib1 10).toInt ss1 os1 (TKl (os 0).toInt (alL (fun r y => (rw1 (100 * r + y)).toInt) (fun r => (ro r).toInt) rt 100)) ∧ ENp (ib1 10).toInt ss1 se1 ∧ ∀ j, j ≠ b → j ≠ b + 4 → j ≠ b + 5 → j ≠ b + 6 → j ≠ b + 7 → j ≠ b + 8 → E' j = E j)) (n) ad 0 0 E15 56 [(0, .ref (ad b)), (1, .int y14)] [] := by
          intro t19
          induction t19 with
          | zero => intro j1 y14 E15 se1 hy14 hE15_b7 hfr16 hq17 hq18 hm21; exfalso; omega
          | succ t19 ih20 =>
            intro j1 y14 E15 se1 hy14 hE15_b7 hfr16 hq17 hq18 hm21
            have hE15_b := (hfr16 b (by omega)).trans hE4_b
            have hE15_b2 := (hfr16 (b + 2) (by omega)).trans hE4_b2
            have hE15_b3 := (hfr16 (b + 3) (by omega)).trans hE4_b3
            have hE15_b4 := (hfr16 (b + 4) (by omega)).trans hE4_b4
            have hE15_b5 := (hfr16 (b + 5) (by omega)).trans hE4_b5
            have hE15_b6 := (hfr16 (b + 6) (by omega)).trans hE4_b6
            have hE15_b8 := (hfr16 (b + 8) (by omega)).trans hE4_b8
            refine v_iload_n C 1 dX6_takeChanges_56 rfl rfl ?_
            refine v_aload_n C 0 dX6_takeChanges_57 rfl rfl ?_
            refine v_geti (v := ib1 10) C b dX6_takeChanges_58 fX6_47 (by omega) hE15_b rfl rfl ?_
            refine b_icmp_ge C 89 dX6_takeChanges_61 (by decide) hy14 (rfl : Int32.toInt (ib1 10) = _) (fun c22 => ?_) (fun c22 => ?_)
            · refine v_aload_n C 0 dX6_takeChanges_89 rfl rfl ?_
              refine v_getr C b dX6_takeChanges_90 fX6_30 (by omega) hE15_b rfl rfl ?_
              refine v_aload_n C 0 dX6_takeChanges_93 rfl rfl ?_
              refine v_geti (v := ib1 10) C b dX6_takeChanges_94 fX6_47 (by omega) hE15_b rfl rfl ?_
              refine v_ldc C dX6_takeChanges_97 kX6_36 ?_
              refine v_ast C (b + 7) dX6_takeChanges_99 (by omega) hE15_b7 (ti_in (rfl : Int32.toInt (ib1 10) = _) (by omega) (by omega)) (fun E23 hE23_b7 oE23 => ?_)
              rw [ti_cl (rfl : Int32.toInt (ib1 10) = _)] at hE23_b7
              have hE23_b := (oE23 b (by omega)).trans hE15_b
              have hE23_b2 := (oE23 (b + 2) (by omega)).trans hE15_b2
              have hE23_b3 := (oE23 (b + 3) (by omega)).trans hE15_b3
              have hE23_b4 := (oE23 (b + 4) (by omega)).trans hE15_b4
              have hE23_b5 := (oE23 (b + 5) (by omega)).trans hE15_b5
              have hE23_b6 := (oE23 (b + 6) (by omega)).trans hE15_b6
              have hE23_b8 := (oE23 (b + 8) (by omega)).trans hE15_b8
              exact v_vret C dX6_takeChanges_100 rfl ⟨_, _, _, _, _, _, hE23_b, hq7, hE23_b4, hE23_b5, hE23_b6, hE23_b7, hE23_b8, (by have e := hq8; rw [show y1 = 100 by omega] at e; exact e), (fun q hq => by by_cases e : (q : Int) < (ib1 10).toInt; (rw [upd_ne (by omega), if_pos e]; exact hq18 q (by omega)); (rw [show q = ((ib1 10).toInt).toNat by omega, upd_same, if_neg (by omega)]; decide)), fun j g0 g4 g5 g6 g7 g8 => ((oE23 j g7).trans ((hfr16 j g7).trans ((hfr5 j g0 g4 g5 g6 g8).trans (oE1 j g0))))⟩
            · refine v_aload_n C 0 dX6_takeChanges_64 rfl rfl ?_
              refine v_getr C b dX6_takeChanges_65 fX6_30 (by omega) hE15_b rfl rfl ?_
              refine v_iload_n C 1 dX6_takeChanges_68 rfl rfl ?_
              refine v_aload_n C 0 dX6_takeChanges_69 rfl rfl ?_
              refine v_getr C b dX6_takeChanges_70 fX6_27 (by omega) hE15_b rfl rfl ?_
              refine v_iload_n C 1 dX6_takeChanges_73 rfl rfl ?_
              refine v_iconst (v := 1) C dX6_takeChanges_74 (by decide) ?_
              refine v_iadd C dX6_takeChanges_75 ?_
              refine v_top (fun x24 ex24 => ?_)
              have hx24 : x24.toInt = ((j1 : Int) + 1) := by rw [ex24]; exact ti_add hy14 (show (1 : Int32).toInt = 1 by decide) (by omega) (by omega)
              refine v_ald (v := ss1 (j1 + 1)) C (b + 6) dX6_takeChanges_76 (by omega) hE15_b6 (ti_in hx24 (by omega) (by omega)) (by rw [ti_cl hx24, show Int.toNat ((j1 : Int) + 1) = j1 + 1 by omega]) ?_
              refine v_ldc C dX6_takeChanges_77 kX6_36 ?_
              refine v_mmin C dX6_takeChanges_79 lX6_58 mJ9_min_7cf53.2.2.1 mJ9_min_7cf53.2.1 mJ9_min_7cf53.1 ⟨by decide, Nat.le_of_ble_eq_true rfl⟩ ⟨Nat.zero_le _, Nat.zero_le _⟩ ?_
              refine v_top (fun x25 ex25 => ?_)
              have hx25 : x25.toInt ≤ (ss1 (j1 + 1)).toInt ∧ x25.toInt ≤ 60000000 ∧ (x25.toInt = (ss1 (j1 + 1)).toInt ∨ x25.toInt = 60000000) := by rw [ex25]; exact mmin_b (rfl : Int32.toInt (ss1 (j1 + 1)) = _) (show (60000000 : Int32).toInt = 60000000 by decide)
              refine v_ast C (b + 7) dX6_takeChanges_82 (by omega) hE15_b7 (ti_in hy14 (by omega) (by omega)) (fun E26 hE26_b7 oE26 => ?_)
              rw [ti_cl hy14, show Int.toNat (j1 : Int) = j1 by omega] at hE26_b7
              have hE26_b := (oE26 b (by omega)).trans hE15_b
              have hE26_b2 := (oE26 (b + 2) (by omega)).trans hE15_b2
              have hE26_b3 := (oE26 (b + 3) (by omega)).trans hE15_b3
              have hE26_b4 := (oE26 (b + 4) (by omega)).trans hE15_b4
              have hE26_b5 := (oE26 (b + 5) (by omega)).trans hE15_b5
              have hE26_b6 := (oE26 (b + 6) (by omega)).trans hE15_b6
              have hE26_b8 := (oE26 (b + 8) (by omega)).trans hE15_b8
              obtain ⟨x27, ex27⟩ : ∃ y : Int32, y = y14 + 1 := ⟨_, rfl⟩
              have hx27 : x27.toInt = ((j1 : Int) + 1) := by rw [ex27]; exact ti_add hy14 (show (1 : Int32).toInt = 1 by decide) (by omega) (by omega)
              refine v_iinc (v := x27) (lv' := [(0, .ref (ad b)), (1, .int x27)]) C 1 [1, 0] dX6_takeChanges_83 rfl (ex27.symm) (by decide) rfl ?_
              refine v_goto C 56 dX6_takeChanges_86 (by decide) ?_
              exact ih20 (j1 + 1) x27 E26 (upd se1 j1 x25) (show Int32.toInt x27 = ((j1 + 1 : Nat) : Int) by have := hx27; omega) hE26_b7 (fun j g0 => ((oE26 j g0).trans (hfr16 j g0))) (by omega) (fun q hq => by by_cases e : q = j1; (rw [e, upd_same]; exact mn60_of hx25.1 hx25.2.1 hx25.2.2); (rw [upd_ne e]; exact hq18 q (by omega))) (by omega)
        exact LP13 100000 0 0 E4 se (show Int32.toInt 0 = ((0 : Nat) : Int) by have := (show (0 : Int32).toInt = 0 by decide); omega) hE4_b7 (fun j _ => rfl) (by omega) (fun q hq => absurd hq (Nat.not_lt_zero q)) (by omega)
      · refine v_aload_n C 0 dX6_takeChanges_13 rfl rfl ?_
        refine v_iload_n C 1 dX6_takeChanges_14 rfl rfl ?_
        refine v_cVi C dX6_takeChanges_15 lX6_50 mX6_sortYear b (by omega) hE4_b (by decide) rfl (z_sort l G n ad _ b hb hE4_b hE4_b2 hE4_b3 hE4_b4 hE4_b5 (rt := rt) (Y := y1) (by rw [hq7 9 (by decide)]; exact hrt) hr8 (by omega) y3 hy3) ⟨by decide, by decide⟩ rfl (Nat.le_of_ble_eq_true rfl) ⟨Nat.zero_le _, Nat.zero_le _⟩ (fun r28 E29 hq30 => ?_)
        obtain ⟨c1, yw31, yo31, hr31, hc1, g431, g531, hA, hO31⟩ := hq30
        have hE29_b := (hO31 b (by omega) (by omega)).trans hE4_b
        have hE29_b2 := (hO31 (b + 2) (by omega) (by omega)).trans hE4_b2
        have hE29_b3 := (hO31 (b + 3) (by omega) (by omega)).trans hE4_b3
        have hE29_b6 := (hO31 (b + 6) (by omega) (by omega)).trans hE4_b6
        have hE29_b7 := (hO31 (b + 7) (by omega) (by omega)).trans hE4_b7
        have hE29_b8 := (hO31 (b + 8) (by omega) (by omega)).trans hE4_b8
        refine v_istore_n (lv' := [(0, .ref (ad b)), (1, .int y3), (2, .int r28)]) C [1, 2, 0] dX6_takeChanges_18 rfl (by decide) rfl ?_
        refine v_iconst (v := 0) C dX6_takeChanges_19 (by decide) ?_
        refine v_istore_n (lv' := [(0, .ref (ad b)), (1, .int y3), (2, .int r28), (3, .int 0)]) C [1, 2, 3, 0] dX6_takeChanges_20 rfl (by decide) rfl ?_
        have LP32 : ∀ (t : Nat) (i1 : Nat) (y33 : Int32) (E34 : Nat → va_E) (ib2 : Nat → Int32) (ss2 : Nat → Int32) (os2 : Nat → Int32), (y33.toInt = (i1 : Int)) → (E34 b = ob 6 (rfs ad [b + 1, b + 2, b + 3, b + 4, b + 5, b + 6, b + 7, b + 8]) ib2) → (E34 (b + 6) = aI G 801 ss2) → (E34 (b + 8) = aI G 801 os2) → (∀ j, j ≠ b → j ≠ (b + 6) → j ≠ (b + 8) → E34 j = E29 j) → (i1 ≤ c1) → (∀ q, q ≠ 10 → ib2 q = ib q) → (ZR (ib2 10).toInt ss2 os2 (TKl (os 0).toInt (PT1 (fun r y => (rw1 (100 * r + y)).toInt) (fun r => (ro r).toInt) rt y1 i1))) → (c1 : Int) - (i1 : Int) < (t : Int) → V X G A 4 (QV X G A (n) ad (fun E' => ∃ ib1 yw1 yo1 ss1 se1 os1 : Nat → Int32, E' b = ob 6 (rfs ad [b + 1, b + 2, b + 3, b + 4, b + 5, b + 6, b + 7, b + 8]) ib1 ∧ (∀ q, q ≠ 10 → ib1 q = ib q) ∧ E' (b + 4) = aI G 8 yw1 ∧ E' (b + 5) = aI G 8 yo1 ∧ E' (b + 6) = aI G 801 ss1 ∧ E' (b + 7) = aI G 801 se1 ∧ E' (b + 8) = aI G 801 os1 ∧ ZR (ib1 10).toInt ss1 os1 (TKl (os 0).toInt (alL (fun r y => (rw1 (100 * r + y)).toInt) (fun r => (ro r).toInt) rt 100)) ∧ ENp (ib1 10).toInt ss1 se1 ∧ ∀ j, j ≠ b → j ≠ b + 4 → j ≠ b + 5 → j ≠ b + 6 → j ≠ b + 7 → j ≠ b + 8 → E' j = E j)) (n) ad 0 0 E34 21 [(0, .ref (ad b)), (1, .int y3), (2, .int r28), (3, .int y33)] [] := by
          intro t39
          induction t39 with
          | zero => intro i1 y33 E34 ib2 ss2 os2 hy33 hE34_b hE34_b6 hE34_b8 hfr35 hq36 hq37 hq38 hm41; exfalso; omega
          | succ t39 ih40 =>
            intro i1 y33 E34 ib2 ss2 os2 hy33 hE34_b hE34_b6 hE34_b8 hfr35 hq36 hq37 hq38 hm41
            have hE34_b2 := (hfr35 (b + 2) (by omega) (by omega) (by omega)).trans hE29_b2
            have hE34_b3 := (hfr35 (b + 3) (by omega) (by omega) (by omega)).trans hE29_b3
            have hE34_b4 := (hfr35 (b + 4) (by omega) (by omega) (by omega)).trans g431
            have hE34_b5 := (hfr35 (b + 5) (by omega) (by omega) (by omega)).trans g531
            have hE34_b7 := (hfr35 (b + 7) (by omega) (by omega) (by omega)).trans hE29_b7
            refine v_iload_n C 3 dX6_takeChanges_21 rfl rfl ?_
            refine v_iload_n C 2 dX6_takeChanges_22 rfl rfl ?_
            refine b_icmp_ge C 48 dX6_takeChanges_23 (by decide) hy33 hr31 (fun c42 => ?_) (fun c42 => ?_)
            · obtain ⟨x43, ex43⟩ : ∃ y : Int32, y = y3 + 1 := ⟨_, rfl⟩
              have hx43 : x43.toInt = ((y1 : Int) + 1) := by rw [ex43]; exact ti_add hy3 (show (1 : Int32).toInt = 1 by decide) (by omega) (by omega)
              refine v_iinc (v := x43) (lv' := [(0, .ref (ad b)), (1, .int x43), (2, .int r28), (3, .int y33)]) C 1 [1, 0, 2, 3] dX6_takeChanges_48 rfl (ex43.symm) (by decide) rfl ?_
              refine v_goto C 7 dX6_takeChanges_51 (by decide) ?_
              refine v_sub (lv' := [(0, .ref (ad b)), (1, .int x43)]) [0, 1] rfl ?_
              exact ih10 (y1 + 1) x43 E34 ib2 yw31 yo31 ss2 os2 (show Int32.toInt x43 = ((y1 + 1 : Nat) : Int) by have := hx43; omega) hE34_b hE34_b4 hE34_b5 hE34_b6 hE34_b8 (fun j g0 g1 g2 g3 g4 => ((hfr35 j g0 g3 g4).trans ((hO31 j g1 g2).trans (hfr5 j g0 g1 g2 g3 g4)))) (by omega) (hq37) (by rw [← PT1_e (show (ylL (fun r y => (rw1 (100 * r + y)).toInt) (fun r => (ro r).toInt) y1 rt).length ≤ i1 by have := hA.1; omega)]; exact hq38) (by omega)
            · refine v_aload_n C 0 dX6_takeChanges_26 rfl rfl ?_
              refine v_aload_n C 0 dX6_takeChanges_27 rfl rfl ?_
              refine v_getr C b dX6_takeChanges_28 fX6_21 (by omega) hE34_b rfl rfl ?_
              refine v_iload_n C 3 dX6_takeChanges_31 rfl rfl ?_
              refine v_ald (v := yw31 i1) C (b + 4) dX6_takeChanges_32 (by omega) hE34_b4 (ti_in hy33 (by omega) (by omega)) (by rw [ti_cl hy33, show Int.toNat (i1 : Int) = i1 by omega]) ?_
              refine v_aload_n C 0 dX6_takeChanges_33 rfl rfl ?_
              refine v_getr C b dX6_takeChanges_34 fX6_24 (by omega) hE34_b rfl rfl ?_
              refine v_iload_n C 3 dX6_takeChanges_37 rfl rfl ?_
              refine v_ald (v := yo31 i1) C (b + 5) dX6_takeChanges_38 (by omega) hE34_b5 (ti_in hy33 (by omega) (by omega)) (by rw [ti_cl hy33, show Int.toNat (i1 : Int) = i1 by omega]) ?_
              have hok := PT1_ok (i := i1) hWB hD.1 hv0 (show y1 < 100 by omega)
              have hgi := hA.2 i1 (by omega)
              have hbd := (yl_bd hWB (show y1 < 100 by omega) rt (Nat.le_refl rt) _ (List.mem_of_getElem? hgi)).1
              have hry : rt * y1 ≤ 8 * y1 := Nat.mul_le_mul_right y1 hr8
              have hz1 := (hq38).1
              refine v_cVv C dX6_takeChanges_39 lX6_54 mX6_take b (by omega) hE34_b (by decide) rfl (z_take l G n ad _ b hb hE34_b hE34_b6 hE34_b8 hq38 hok.1 hD (by omega) (yw31 i1) (yo31 i1) hbd) ⟨by decide, by decide⟩ rfl (Nat.le_of_ble_eq_true rfl) ⟨Nat.zero_le _, Nat.zero_le _⟩ (fun E44 hq45 => ?_)
              obtain ⟨ib46, ss46, os46, g046, gk46, g646, g846, gZ46, hO46⟩ := hq45
              have hE44_b2 := (hO46 (b + 2) (by omega) (by omega) (by omega)).trans hE34_b2
              have hE44_b3 := (hO46 (b + 3) (by omega) (by omega) (by omega)).trans hE34_b3
              have hE44_b4 := (hO46 (b + 4) (by omega) (by omega) (by omega)).trans hE34_b4
              have hE44_b5 := (hO46 (b + 5) (by omega) (by omega) (by omega)).trans hE34_b5
              have hE44_b7 := (hO46 (b + 7) (by omega) (by omega) (by omega)).trans hE34_b7
              obtain ⟨x47, ex47⟩ : ∃ y : Int32, y = y33 + 1 := ⟨_, rfl⟩
              have hx47 : x47.toInt = ((i1 : Int) + 1) := by rw [ex47]; exact ti_add hy33 (show (1 : Int32).toInt = 1 by decide) (by omega) (by omega)
              refine v_iinc (v := x47) (lv' := [(0, .ref (ad b)), (1, .int y3), (2, .int r28), (3, .int x47)]) C 3 [1, 2, 3, 0] dX6_takeChanges_42 rfl (ex47.symm) (by decide) rfl ?_
              refine v_goto C 21 dX6_takeChanges_45 (by decide) ?_
              exact ih40 (i1 + 1) x47 E44 ib46 ss46 os46 (show Int32.toInt x47 = ((i1 + 1 : Nat) : Int) by have := hx47; omega) g046 g646 g846 (fun j g0 g1 g2 => ((hO46 j g0 g1 g2).trans (hfr35 j g0 g1 g2))) (by omega) (fun q hq => (gk46 q hq).trans (hq37 q hq)) (by rw [PT1_s hgi, TK_app]; exact gZ46) (by omega)
        exact LP32 100000 0 0 E29 ib1 ss1 os1 (show Int32.toInt 0 = ((0 : Nat) : Int) by have := (show (0 : Int32).toInt = 0 by decide); omega) hE29_b hE29_b6 hE29_b8 (fun j _ _ _ => rfl) (by omega) (hq7) (by rw [PT1_0]; exact hq8) (by omega)
  exact LP2 100000 0 0 E1 (va_up ib 10 0) yw yo ss os (show Int32.toInt 0 = ((0 : Nat) : Int) by have := (show (0 : Int32).toInt = 0 by decide); omega) hE1_b hE1_b4 hE1_b5 hE1_b6 hE1_b8 (fun j _ _ _ _ _ => rfl) (by omega) (fun q hq => if_neg hq) (ZR_0 (show (0 : Int32).toInt = 0 by decide) hs0 rfl) (by omega)

set_option maxRecDepth 20000 in
theorem z_refresh (l : Launch) (G : Gl) (n : Nat) (ad : Nat → Nat) (E : Nat → va_E) (b : Nat) (hb : b + 9 ≤ n) {ib : Nat → Int32} (hB : E b = ob 6 (rfs ad [b + 1, b + 2, b + 3, b + 4, b + 5, b + 6, b + 7, b + 8]) ib) {ro : Nat → Int32} (h2 : E (b + 2) = aI G 8 ro) {rw1 : Nat → Int32} (h3 : E (b + 3) = aI G 800 rw1) {yw : Nat → Int32} (h4 : E (b + 4) = aI G 8 yw) {yo : Nat → Int32} (h5 : E (b + 5) = aI G 8 yo) {ss : Nat → Int32} (h6 : E (b + 6) = aI G 801 ss) {se : Nat → Int32} (h7 : E (b + 7) = aI G 801 se) {os : Nat → Int32} (h8 : E (b + 8) = aI G 801 os) {to : Nat → Int32} (h1 : E (b + 1) = aI G 8 to) {rt R : Nat} (hrt : (ib 9).toInt = (rt : Int)) (hR : (ib 8).toInt = (R : Int)) (hR8 : R ≤ 8) (hs0 : (ss 0).toInt = 0) (hv0 : -720 ≤ (os 0).toInt ∧ (os 0).toInt ≤ 720) {D : Int} (hD : 0 ≤ D ∧ D ≤ 69300000) (hWB : WBp (fun r y => (rw1 (100 * r + y)).toInt) (fun r => (ro r).toInt) R D) (hZ : ZR (ib 10).toInt ss os (TKl (os 0).toInt (alL (fun r y => (rw1 (100 * r + y)).toInt) (fun r => (ro r).toInt) rt 100))) (hEN : ENp (ib 10).toInt ss se) (kn : Int32) : CtV l G yX6_refresh cX6_refresh 4 2 50 (n) ad E [.ref (ad b), .int kn] (fun E' => ∃ ib1 yw1 yo1 ss1 se1 os1 : Nat → Int32, E' b = ob 6 (rfs ad [b + 1, b + 2, b + 3, b + 4, b + 5, b + 6, b + 7, b + 8]) ib1 ∧ (ib1 9).toInt = (cntT to kn.toInt R : Int) ∧ (∀ q, q ≠ 9 → q ≠ 10 → ib1 q = ib q) ∧ E' (b + 4) = aI G 8 yw1 ∧ E' (b + 5) = aI G 8 yo1 ∧ E' (b + 6) = aI G 801 ss1 ∧ E' (b + 7) = aI G 801 se1 ∧ E' (b + 8) = aI G 801 os1 ∧ ZR (ib1 10).toInt ss1 os1 (TKl (os 0).toInt (alL (fun r y => (rw1 (100 * r + y)).toInt) (fun r => (ro r).toInt) (cntT to kn.toInt R) 100)) ∧ ENp (ib1 10).toInt ss1 se1 ∧ ∀ j, j ≠ b → j ≠ b + 4 → j ≠ b + 5 → j ≠ b + 6 → j ≠ b + 7 → j ≠ b + 8 → E' j = E j) := by
  refine CtV.of (by decide) (Nat.le_of_ble_eq_true rfl) (fun X A C => ?_)
  refine v_sub (lv' := [(0, .ref (ad b)), (1, .int kn)]) [0, 1] rfl ?_
  refine v_iconst (v := 0) C dX6_refresh_0 (by decide) ?_
  refine v_istore_n (lv' := [(0, .ref (ad b)), (1, .int kn), (2, .int 0)]) C [1, 2, 0] dX6_refresh_1 rfl (by decide) rfl ?_
  refine v_iconst (v := 0) C dX6_refresh_2 (by decide) ?_
  refine v_istore_n (lv' := [(0, .ref (ad b)), (1, .int kn), (2, .int 0), (3, .int 0)]) C [1, 2, 3, 0] dX6_refresh_3 rfl (by decide) rfl ?_
  have LP1 : ∀ (t : Nat) (c : Nat) (y2 : Int32) (r1 : Nat) (y3 : Int32) (E4 : Nat → va_E), (y2.toInt = (c : Int)) → (y3.toInt = (r1 : Int)) → (∀ j, E4 j = E j) → (r1 ≤ R) → (c ≤ r1) → (c = cntT to kn.toInt r1) → (R : Int) - (r1 : Int) < (t : Int) → V X G A 4 (QV X G A (n) ad (fun E' => ∃ ib1 yw1 yo1 ss1 se1 os1 : Nat → Int32, E' b = ob 6 (rfs ad [b + 1, b + 2, b + 3, b + 4, b + 5, b + 6, b + 7, b + 8]) ib1 ∧ (ib1 9).toInt = (cntT to kn.toInt R : Int) ∧ (∀ q, q ≠ 9 → q ≠ 10 → ib1 q = ib q) ∧ E' (b + 4) = aI G 8 yw1 ∧ E' (b + 5) = aI G 8 yo1 ∧ E' (b + 6) = aI G 801 ss1 ∧ E' (b + 7) = aI G 801 se1 ∧ E' (b + 8) = aI G 801 os1 ∧ ZR (ib1 10).toInt ss1 os1 (TKl (os 0).toInt (alL (fun r y => (rw1 (100 * r + y)).toInt) (fun r => (ro r).toInt) (cntT to kn.toInt R) 100)) ∧ ENp (ib1 10).toInt ss1 se1 ∧ ∀ j, j ≠ b → j ≠ b + 4 → j ≠ b + 5 → j ≠ b + 6 → j ≠ b + 7 → j ≠ b + 8 → E' j = E j)) (n) ad 0 0 E4 4 [(0, .ref (ad b)), (1, .int kn), (2, .int y2), (3, .int y3)] [] := by
    intro t9
    induction t9 with
    | zero => intro c y2 r1 y3 E4 hy2 hy3 hfr5 hq6 hq7 hq8 hm11; exfalso; omega
    | succ t9 ih10 =>
      intro c y2 r1 y3 E4 hy2 hy3 hfr5 hq6 hq7 hq8 hm11
      have hE4_b := (hfr5 b ).trans hB
      have hE4_b2 := (hfr5 (b + 2) ).trans h2
      have hE4_b3 := (hfr5 (b + 3) ).trans h3
      have hE4_b4 := (hfr5 (b + 4) ).trans h4
      have hE4_b5 := (hfr5 (b + 5) ).trans h5
      have hE4_b6 := (hfr5 (b + 6) ).trans h6
      have hE4_b7 := (hfr5 (b + 7) ).trans h7
      have hE4_b8 := (hfr5 (b + 8) ).trans h8
      have hE4_b1 := (hfr5 (b + 1) ).trans h1
      refine v_iload_n C 3 dX6_refresh_4 rfl rfl ?_
      refine v_aload_n C 0 dX6_refresh_5 rfl rfl ?_
      refine v_geti (v := ib 8) C b dX6_refresh_6 fX6_37 (by omega) hE4_b rfl rfl ?_
      refine b_icmp_ge C 31 dX6_refresh_9 (by decide) hy3 hR (fun c12 => ?_) (fun c12 => ?_)
      · refine v_iload_n C 2 dX6_refresh_31 rfl rfl ?_
        refine v_aload_n C 0 dX6_refresh_32 rfl rfl ?_
        refine v_geti (v := ib 9) C b dX6_refresh_33 fX6_41 (by omega) hE4_b rfl rfl ?_
        refine b_icmp_eq C 48 dX6_refresh_36 (by decide) hy2 hrt (fun c13 => ?_) (fun c13 => ?_)
        · exact v_vret C dX6_refresh_48 rfl ⟨ib, yw, yo, ss, se, os, hE4_b, (by rw [hrt, show R = r1 by omega]; omega), (fun _ _ _ => rfl), hE4_b4, hE4_b5, hE4_b6, hE4_b7, hE4_b8, (by rw [show cntT to kn.toInt R = rt by rw [show R = r1 by omega]; omega]; exact hZ), hEN, fun j _ _ _ _ _ _ => (hfr5 j )⟩
        · refine v_aload_n C 0 dX6_refresh_39 rfl rfl ?_
          refine v_iload_n C 2 dX6_refresh_40 rfl rfl ?_
          refine v_puti C b dX6_refresh_41 fX6_41 (by omega) hE4_b rfl rfl rfl rfl (fun E14 hE14_b oE14 => ?_)
          have hE14_b2 := (oE14 (b + 2) (by omega)).trans hE4_b2
          have hE14_b3 := (oE14 (b + 3) (by omega)).trans hE4_b3
          have hE14_b4 := (oE14 (b + 4) (by omega)).trans hE4_b4
          have hE14_b5 := (oE14 (b + 5) (by omega)).trans hE4_b5
          have hE14_b6 := (oE14 (b + 6) (by omega)).trans hE4_b6
          have hE14_b7 := (oE14 (b + 7) (by omega)).trans hE4_b7
          have hE14_b8 := (oE14 (b + 8) (by omega)).trans hE4_b8
          have hE14_b1 := (oE14 (b + 1) (by omega)).trans hE4_b1
          refine v_aload_n C 0 dX6_refresh_44 rfl rfl ?_
          refine v_cVv C dX6_refresh_45 lX6_44 mX6_takeChanges b (by omega) hE14_b (by decide) rfl (z_takeC l G n ad _ b hb hE14_b hE14_b2 hE14_b3 hE14_b4 hE14_b5 hE14_b6 hE14_b7 hE14_b8 (rt := c) (show (va_up ib 9 y2 9).toInt = (c : Int) from hy2) (by omega) hs0 hv0 hD ⟨fun r y h1 h2 => hWB.1 r y (by omega) h2, fun r h1 => hWB.2 r (by omega)⟩) ⟨by decide, by decide⟩ rfl (Nat.le_of_ble_eq_true rfl) ⟨Nat.zero_le _, Nat.zero_le _⟩ (fun E15 hq16 => ?_)
          obtain ⟨ib2, yw2, yo2, ss2, se2, os2, g0, gk, g4, g5, g6, g7, g8, gZ, gE, hO17⟩ := hq16
          exact v_vret C dX6_refresh_48 rfl ⟨ib2, yw2, yo2, ss2, se2, os2, g0, (by rw [gk 9 (by decide), show R = r1 by omega, ← hq8]; exact hy2), (fun q h9 h10 => (gk q h10).trans (if_neg h9)), g4, g5, g6, g7, g8, (by rw [show R = r1 by omega, ← hq8]; exact gZ), gE, fun j a0 a4 a5 a6 a7 a8 => ((hO17 j a0 a4 a5 a6 a7 a8).trans ((oE14 j a0).trans (hfr5 j )))⟩
      · refine v_aload_n C 0 dX6_refresh_12 rfl rfl ?_
        refine v_getr C b dX6_refresh_13 fX6_9 (by omega) hE4_b rfl rfl ?_
        refine v_iload_n C 3 dX6_refresh_16 rfl rfl ?_
        refine v_ald (v := to r1) C (b + 1) dX6_refresh_17 (by omega) hE4_b1 (ti_in hy3 (by omega) (by omega)) (by rw [ti_cl hy3, show Int.toNat (r1 : Int) = r1 by omega]) ?_
        refine v_iload_n C 1 dX6_refresh_18 rfl rfl ?_
        refine b_icmp_gt C 25 dX6_refresh_19 (by decide) (rfl : Int32.toInt (to r1) = _) (rfl : Int32.toInt kn = _) (fun c18 => ?_) (fun c18 => ?_)
        · obtain ⟨x19, ex19⟩ : ∃ y : Int32, y = y3 + 1 := ⟨_, rfl⟩
          have hx19 : x19.toInt = ((r1 : Int) + 1) := by rw [ex19]; exact ti_add hy3 (show (1 : Int32).toInt = 1 by decide) (by omega) (by omega)
          refine v_iinc (v := x19) (lv' := [(0, .ref (ad b)), (1, .int kn), (2, .int y2), (3, .int x19)]) C 3 [1, 2, 3, 0] dX6_refresh_25 rfl (ex19.symm) (by decide) rfl ?_
          refine v_goto C 4 dX6_refresh_28 (by decide) ?_
          exact ih10 c y2 (r1 + 1) x19 E4 (show Int32.toInt y2 = ((c : Nat) : Int) by have := hy2; omega) (show Int32.toInt x19 = ((r1 + 1 : Nat) : Int) by have := hx19; omega) (fun j => (hfr5 j )) (by omega) (by omega) (by show c = (if (to r1).toInt ≤ kn.toInt then cntT to kn.toInt r1 + 1 else cntT to kn.toInt r1); rw [if_neg (by omega)]; omega) (by omega)
        · obtain ⟨x20, ex20⟩ : ∃ y : Int32, y = y2 + 1 := ⟨_, rfl⟩
          have hx20 : x20.toInt = ((c : Int) + 1) := by rw [ex20]; exact ti_add hy2 (show (1 : Int32).toInt = 1 by decide) (by omega) (by omega)
          refine v_iinc (v := x20) (lv' := [(0, .ref (ad b)), (1, .int kn), (2, .int x20), (3, .int y3)]) C 2 [1, 2, 0, 3] dX6_refresh_22 rfl (ex20.symm) (by decide) rfl ?_
          obtain ⟨x21, ex21⟩ : ∃ y : Int32, y = y3 + 1 := ⟨_, rfl⟩
          have hx21 : x21.toInt = ((r1 : Int) + 1) := by rw [ex21]; exact ti_add hy3 (show (1 : Int32).toInt = 1 by decide) (by omega) (by omega)
          refine v_iinc (v := x21) (lv' := [(0, .ref (ad b)), (1, .int kn), (2, .int x20), (3, .int x21)]) C 3 [1, 2, 3, 0] dX6_refresh_25 rfl (ex21.symm) (by decide) rfl ?_
          refine v_goto C 4 dX6_refresh_28 (by decide) ?_
          exact ih10 (c + 1) x20 (r1 + 1) x21 E4 (show Int32.toInt x20 = ((c + 1 : Nat) : Int) by have := hx20; omega) (show Int32.toInt x21 = ((r1 + 1 : Nat) : Int) by have := hx21; omega) (fun j => (hfr5 j )) (by omega) (by omega) (by show c + 1 = (if (to r1).toInt ≤ kn.toInt then cntT to kn.toInt r1 + 1 else cntT to kn.toInt r1); rw [if_pos (by omega)]; omega) (by omega)
  exact LP1 100000 0 0 0 0 E (show Int32.toInt 0 = ((0 : Nat) : Int) by have := (show (0 : Int32).toInt = 0 by decide); omega) (show Int32.toInt 0 = ((0 : Nat) : Int) by have := (show (0 : Int32).toInt = 0 by decide); omega) (fun j => rfl) (by omega) (by omega) (rfl) (by omega)

