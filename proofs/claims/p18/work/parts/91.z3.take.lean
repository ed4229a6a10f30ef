set_option maxRecDepth 20000 in
theorem z_take (l : Launch) (G : Gl) (n : Nat) (ad : Nat → Nat) (E : Nat → va_E) (b : Nat) (hb : b + 9 ≤ n) {ib : Nat → Int32} (hB : E b = ob 6 (rfs ad [b + 1, b + 2, b + 3, b + 4, b + 5, b + 6, b + 7, b + 8]) ib) {ss : Nat → Int32} (h6 : E (b + 6) = aI G 801 ss) {os : Nat → Int32} (h8 : E (b + 8) = aI G 801 os) {st : Nat × (Nat → Int) × (Nat → Int)} (hZ : ZR (ib 10).toInt ss os st) {D : Int} (hT : okT D st) (hD : 0 ≤ D ∧ D ≤ 69300000) (hc : (ib 10).toInt < 800) (w : Int32) (v : Int32) (hw : 0 ≤ w.toInt ∧ w.toInt ≤ D) : CtV l G yX6_take cX6_take 5 0 0 (n) ad E [.ref (ad b), .int w, .int v] (fun E' => ∃ ib1 ss1 os1 : Nat → Int32, E' b = ob 6 (rfs ad [b + 1, b + 2, b + 3, b + 4, b + 5, b + 6, b + 7, b + 8]) ib1 ∧ (∀ q, q ≠ 10 → ib1 q = ib q) ∧ E' (b + 6) = aI G 801 ss1 ∧ E' (b + 8) = aI G 801 os1 ∧ ZR (ib1 10).toInt ss1 os1 (tkS st (w.toInt, v.toInt)) ∧ ∀ j, j ≠ b → j ≠ b + 6 → j ≠ b + 8 → E' j = E j) := by
  refine CtV.of (by decide) (Nat.le_of_ble_eq_true rfl) (fun X A C => ?_)
  refine v_sub (lv' := [(0, .ref (ad b)), (1, .int w), (2, .int v)]) [0, 1, 2] rfl ?_
  have hst : (ib 10).toInt.toNat = st.1 := by have := hZ.1; omega
  have hcn : 0 ≤ (ib 10).toInt := by have := hZ.1; omega
  have hSs : (ss (ib 10).toInt.toNat).toInt = st.2.1 st.1 := by rw [hst]; exact (hZ.2 _ (Nat.le_refl _)).1
  have hSo : (os (ib 10).toInt.toNat).toInt = st.2.2 st.1 := by rw [hst]; exact (hZ.2 _ (Nat.le_refl _)).2
  have hob := hT.2.2.2 st.1 (Nat.le_refl _)
  have hsb := hT.2.1 st.1 (Nat.le_refl _)
  refine v_iload_n C 1 dX6_take_0 rfl rfl ?_
  refine v_aload_n C 0 dX6_take_1 rfl rfl ?_
  refine v_getr C b dX6_take_2 fX6_33 (by omega) hB rfl rfl ?_
  refine v_aload_n C 0 dX6_take_5 rfl rfl ?_
  refine v_geti (v := ib 10) C b dX6_take_6 fX6_47 (by omega) hB rfl rfl ?_
  refine v_ald (v := os ((ib 10).toInt).toNat) C (b + 8) dX6_take_9 (by omega) h8 (ti_in (rfl : Int32.toInt (ib 10) = _) (by omega) (by omega)) (by rw [ti_cl (rfl : Int32.toInt (ib 10) = _)]) ?_
  refine v_isub C dX6_take_10 ?_
  refine v_top (fun x1 ex1 => ?_)
  have hx1 : x1.toInt = (w.toInt - (os ((ib 10).toInt).toNat).toInt) := by rw [ex1]; exact ti_sub (rfl : Int32.toInt w = _) (rfl : Int32.toInt (os ((ib 10).toInt).toNat) = _) (by omega) (by omega)
  refine v_istore_n (lv' := [(0, .ref (ad b)), (1, .int w), (2, .int v), (3, .int x1)]) C [1, 2, 3, 0] dX6_take_11 rfl (by decide) rfl ?_
  refine v_aload_n C 0 dX6_take_12 rfl rfl ?_
  refine v_geti (v := ib 10) C b dX6_take_13 fX6_47 (by omega) hB rfl rfl ?_
  refine b_if_eq C 32 dX6_take_16 (by decide) (rfl : Int32.toInt (ib 10) = _) (fun c2 => ?_) (fun c2 => ?_)
  · refine v_iconst (v := 1) C dX6_take_32 (by decide) ?_
    refine v_goto C 37 dX6_take_33 (by decide) ?_
    refine v_istore (lv' := [(0, .ref (ad b)), (1, .int w), (2, .int v), (3, .int x1), (4, .int 1)]) C [1, 2, 3, 4, 0] dX6_take_37 (by decide) rfl ?_
    refine v_iload_n C 3 dX6_take_39 rfl rfl ?_
    refine b_if_lt C 58 dX6_take_40 (by decide) hx1 (fun c3 => ?_) (fun c3 => ?_)
    · exact v_vret C dX6_take_58 rfl ⟨ib, ss, os, hB, fun _ _ => rfl, h6, h8, ZR_leave hZ (by omega), fun j _ _ _ => rfl⟩
    · refine v_iload C 4 dX6_take_43 rfl ?_
      refine b_if_eq C 58 dX6_take_45 (by decide) (show (1 : Int32).toInt = 1 by decide) (fun c4 => absurd c4 (by decide)) (fun c4 => ?_)
      refine v_aload_n C 0 dX6_take_48 rfl rfl ?_
      refine v_geti (v := ib 10) C b dX6_take_49 fX6_47 (by omega) hB rfl rfl ?_
      refine v_sipush (v := 800) C dX6_take_52 (by decide) ?_
      refine b_icmp_lt C 59 dX6_take_55 (by decide) (rfl : Int32.toInt (ib 10) = _) (show (800 : Int32).toInt = 800 by decide) (fun c5 => ?_) (fun c5 => ?_)
      · refine v_aload_n C 0 dX6_take_59 rfl rfl ?_
        refine v_dup C dX6_take_60 rfl ?_
        refine v_geti (v := ib 10) C b dX6_take_61 fX6_47 (by omega) hB rfl rfl ?_
        refine v_iconst (v := 1) C dX6_take_64 (by decide) ?_
        refine v_iadd C dX6_take_65 ?_
        refine v_top (fun x6 ex6 => ?_)
        have hx6 : x6.toInt = ((ib 10).toInt + 1) := by rw [ex6]; exact ti_add (rfl : Int32.toInt (ib 10) = _) (show (1 : Int32).toInt = 1 by decide) (by omega) (by omega)
        refine v_puti C b dX6_take_66 fX6_47 (by omega) hB rfl rfl rfl rfl (fun E7 hE7_b oE7 => ?_)
        have hE7_b6 := (oE7 (b + 6) (by omega)).trans h6
        have hE7_b8 := (oE7 (b + 8) (by omega)).trans h8
        refine v_aload_n C 0 dX6_take_69 rfl rfl ?_
        refine v_getr C b dX6_take_70 fX6_27 (by omega) hE7_b rfl rfl ?_
        refine v_aload_n C 0 dX6_take_73 rfl rfl ?_
        refine v_geti (v := x6) C b dX6_take_74 fX6_47 (by omega) hE7_b rfl rfl ?_
        refine v_iload_n C 3 dX6_take_77 rfl rfl ?_
        refine v_ast C (b + 6) dX6_take_78 (by omega) hE7_b6 (ti_in hx6 (by omega) (by omega)) (fun E8 hE8_b6 oE8 => ?_)
        rw [ti_cl hx6] at hE8_b6
        have hE8_b := (oE8 b (by omega)).trans hE7_b
        have hE8_b8 := (oE8 (b + 8) (by omega)).trans hE7_b8
        refine v_aload_n C 0 dX6_take_79 rfl rfl ?_
        refine v_getr C b dX6_take_80 fX6_33 (by omega) hE8_b rfl rfl ?_
        refine v_aload_n C 0 dX6_take_83 rfl rfl ?_
        refine v_geti (v := x6) C b dX6_take_84 fX6_47 (by omega) hE8_b rfl rfl ?_
        refine v_iload_n C 2 dX6_take_87 rfl rfl ?_
        refine v_ast C (b + 8) dX6_take_88 (by omega) hE8_b8 (ti_in hx6 (by omega) (by omega)) (fun E9 hE9_b8 oE9 => ?_)
        rw [ti_cl hx6] at hE9_b8
        have hE9_b := (oE9 b (by omega)).trans hE8_b
        have hE9_b6 := (oE9 (b + 6) (by omega)).trans hE8_b6
        exact v_vret C dX6_take_89 rfl ⟨_, _, _, hE9_b, (fun q hq => if_neg hq), hE9_b6, hE9_b8, (show ZR (va_up ib 10 x6 10).toInt _ _ _ by rw [show (va_up ib 10 x6 10).toInt = (ib 10).toInt + 1 from hx6]; exact ZR_take (w := w) hZ (by rw [hx1, hSo]) rfl (by omega)), fun j g0 g6 g8 => ((oE9 j g8).trans ((oE8 j g6).trans (oE7 j g0)))⟩
      · exact v_vret C dX6_take_58 rfl ⟨ib, ss, os, hB, fun _ _ => rfl, h6, h8, ZR_leave hZ (by omega), fun j _ _ _ => rfl⟩
  · refine v_iload_n C 3 dX6_take_19 rfl rfl ?_
    refine v_aload_n C 0 dX6_take_20 rfl rfl ?_
    refine v_getr C b dX6_take_21 fX6_27 (by omega) hB rfl rfl ?_
    refine v_aload_n C 0 dX6_take_24 rfl rfl ?_
    refine v_geti (v := ib 10) C b dX6_take_25 fX6_47 (by omega) hB rfl rfl ?_
    refine v_ald (v := ss ((ib 10).toInt).toNat) C (b + 6) dX6_take_28 (by omega) h6 (ti_in (rfl : Int32.toInt (ib 10) = _) (by omega) (by omega)) (by rw [ti_cl (rfl : Int32.toInt (ib 10) = _)]) ?_
    refine b_icmp_le C 36 dX6_take_29 (by decide) hx1 (rfl : Int32.toInt (ss ((ib 10).toInt).toNat) = _) (fun c10 => ?_) (fun c10 => ?_)
    · refine v_iconst (v := 0) C dX6_take_36 (by decide) ?_
      refine v_istore (lv' := [(0, .ref (ad b)), (1, .int w), (2, .int v), (3, .int x1), (4, .int 0)]) C [1, 2, 3, 4, 0] dX6_take_37 (by decide) rfl ?_
      refine v_iload_n C 3 dX6_take_39 rfl rfl ?_
      refine b_if_lt C 58 dX6_take_40 (by decide) hx1 (fun c11 => ?_) (fun c11 => ?_)
      · exact v_vret C dX6_take_58 rfl ⟨ib, ss, os, hB, fun _ _ => rfl, h6, h8, ZR_leave hZ (by omega), fun j _ _ _ => rfl⟩
      · refine v_iload C 4 dX6_take_43 rfl ?_
        refine b_if_eq C 58 dX6_take_45 (by decide) (show (0 : Int32).toInt = 0 by decide) (fun c12 => ?_) (fun c12 => absurd c12 (by decide))
        exact v_vret C dX6_take_58 rfl ⟨ib, ss, os, hB, fun _ _ => rfl, h6, h8, ZR_leave hZ (by omega), fun j _ _ _ => rfl⟩
    · refine v_iconst (v := 1) C dX6_take_32 (by decide) ?_
      refine v_goto C 37 dX6_take_33 (by decide) ?_
      refine v_istore (lv' := [(0, .ref (ad b)), (1, .int w), (2, .int v), (3, .int x1), (4, .int 1)]) C [1, 2, 3, 4, 0] dX6_take_37 (by decide) rfl ?_
      refine v_iload_n C 3 dX6_take_39 rfl rfl ?_
      refine b_if_lt C 58 dX6_take_40 (by decide) hx1 (fun c13 => ?_) (fun c13 => ?_)
      · exact v_vret C dX6_take_58 rfl ⟨ib, ss, os, hB, fun _ _ => rfl, h6, h8, ZR_leave hZ (by omega), fun j _ _ _ => rfl⟩
      · refine v_iload C 4 dX6_take_43 rfl ?_
        refine b_if_eq C 58 dX6_take_45 (by decide) (show (1 : Int32).toInt = 1 by decide) (fun c14 => absurd c14 (by decide)) (fun c14 => ?_)
        refine v_aload_n C 0 dX6_take_48 rfl rfl ?_
        refine v_geti (v := ib 10) C b dX6_take_49 fX6_47 (by omega) hB rfl rfl ?_
        refine v_sipush (v := 800) C dX6_take_52 (by decide) ?_
        refine b_icmp_lt C 59 dX6_take_55 (by decide) (rfl : Int32.toInt (ib 10) = _) (show (800 : Int32).toInt = 800 by decide) (fun c15 => ?_) (fun c15 => ?_)
        · refine v_aload_n C 0 dX6_take_59 rfl rfl ?_
          refine v_dup C dX6_take_60 rfl ?_
          refine v_geti (v := ib 10) C b dX6_take_61 fX6_47 (by omega) hB rfl rfl ?_
          refine v_iconst (v := 1) C dX6_take_64 (by decide) ?_
          refine v_iadd C dX6_take_65 ?_
          refine v_top (fun x16 ex16 => ?_)
          have hx16 : x16.toInt = ((ib 10).toInt + 1) := by rw [ex16]; exact ti_add (rfl : Int32.toInt (ib 10) = _) (show (1 : Int32).toInt = 1 by decide) (by omega) (by omega)
          refine v_puti C b dX6_take_66 fX6_47 (by omega) hB rfl rfl rfl rfl (fun E17 hE17_b oE17 => ?_)
          have hE17_b6 := (oE17 (b + 6) (by omega)).trans h6
          have hE17_b8 := (oE17 (b + 8) (by omega)).trans h8
          refine v_aload_n C 0 dX6_take_69 rfl rfl ?_
          refine v_getr C b dX6_take_70 fX6_27 (by omega) hE17_b rfl rfl ?_
          refine v_aload_n C 0 dX6_take_73 rfl rfl ?_
          refine v_geti (v := x16) C b dX6_take_74 fX6_47 (by omega) hE17_b rfl rfl ?_
          refine v_iload_n C 3 dX6_take_77 rfl rfl ?_
          refine v_ast C (b + 6) dX6_take_78 (by omega) hE17_b6 (ti_in hx16 (by omega) (by omega)) (fun E18 hE18_b6 oE18 => ?_)
          rw [ti_cl hx16] at hE18_b6
          have hE18_b := (oE18 b (by omega)).trans hE17_b
          have hE18_b8 := (oE18 (b + 8) (by omega)).trans hE17_b8
          refine v_aload_n C 0 dX6_take_79 rfl rfl ?_
          refine v_getr C b dX6_take_80 fX6_33 (by omega) hE18_b rfl rfl ?_
          refine v_aload_n C 0 dX6_take_83 rfl rfl ?_
          refine v_geti (v := x16) C b dX6_take_84 fX6_47 (by omega) hE18_b rfl rfl ?_
          refine v_iload_n C 2 dX6_take_87 rfl rfl ?_
          refine v_ast C (b + 8) dX6_take_88 (by omega) hE18_b8 (ti_in hx16 (by omega) (by omega)) (fun E19 hE19_b8 oE19 => ?_)
          rw [ti_cl hx16] at hE19_b8
          have hE19_b := (oE19 b (by omega)).trans hE18_b
          have hE19_b6 := (oE19 (b + 6) (by omega)).trans hE18_b6
          exact v_vret C dX6_take_89 rfl ⟨_, _, _, hE19_b, (fun q hq => if_neg hq), hE19_b6, hE19_b8, (show ZR (va_up ib 10 x16 10).toInt _ _ _ by rw [show (va_up ib 10 x16 10).toInt = (ib 10).toInt + 1 from hx16]; exact ZR_take (w := w) hZ (by rw [hx1, hSo]) rfl (by omega)), fun j g0 g6 g8 => ((oE19 j g8).trans ((oE18 j g6).trans (oE17 j g0)))⟩
        · exact v_vret C dX6_take_58 rfl ⟨ib, ss, os, hB, fun _ _ => rfl, h6, h8, ZR_leave hZ (by omega), fun j _ _ _ => rfl⟩

theorem yl_s {W : Nat → Nat → Int} {B : Nat → Int} {y r : Nat} (h : W r y ≠ -1) : ylL W B y (r + 1) = insL (W r y) (B r) (ylL W B y r) := if_neg h
theorem yl_k {W : Nat → Nat → Int} {B : Nat → Int} {y r : Nat} (h : W r y = -1) : ylL W B y (r + 1) = ylL W B y r := if_pos h
theorem AR_low {c a : Nat} {ws os : Nat → Int32} {L : List (Int × Int)} {w : Int} (h : AR c ws os L) (hs : srt L) (ha : a ≤ c) (hw : a = 0 ∨ (ws (a - 1)).toInt < w) : ∀ i, i < a → (ws i).toInt < w := by
  intro i hi
  rcases hw with e | e
  · omega
  · by_cases q : i = a - 1
    · rw [q]; exact e
    · have := AR_lt h hs (i := i) (j := a - 1) (by omega) (by omega)
      omega
set_option maxRecDepth 20000 in
theorem z_sort (l : Launch) (G : Gl) (n : Nat) (ad : Nat → Nat) (E : Nat → va_E) (b : Nat) (hb : b + 9 ≤ n) {ib : Nat → Int32} (hB : E b = ob 6 (rfs ad [b + 1, b + 2, b + 3, b + 4, b + 5, b + 6, b + 7, b + 8]) ib) {ro : Nat → Int32} (h2 : E (b + 2) = aI G 8 ro) {rw1 : Nat → Int32} (h3 : E (b + 3) = aI G 800 rw1) {yw : Nat → Int32} (h4 : E (b + 4) = aI G 8 yw) {yo : Nat → Int32} (h5 : E (b + 5) = aI G 8 yo) {rt Y : Nat} (hrt : (ib 9).toInt = (rt : Int)) (hr8 : rt ≤ 8) (hY : Y < 100) (y : Int32) (hy : y.toInt = (Y : Int)) : CtI l G yX6_sortYear cX6_sortYear 8 .int 0 0 (n) ad E [.ref (ad b), .int y] (fun r E' => ∃ (c : Nat) (yw1 yo1 : Nat → Int32), r.toInt = (c : Int) ∧ c ≤ rt ∧ E' (b + 4) = aI G 8 yw1 ∧ E' (b + 5) = aI G 8 yo1 ∧ AR c yw1 yo1 (ylL (fun r y => (rw1 (100 * r + y)).toInt) (fun r => (ro r).toInt) Y rt) ∧ ∀ j, j ≠ b + 4 → j ≠ b + 5 → E' j = E j) := by
  refine CtI.of (by decide) (Nat.le_of_ble_eq_true rfl) (fun X A C => ?_)
  refine v_sub (lv' := [(0, .ref (ad b)), (1, .int y)]) [0, 1] rfl ?_
  refine v_iconst (v := 0) C dX6_sortYear_0 (by decide) ?_
  refine v_istore_n (lv' := [(0, .ref (ad b)), (1, .int y), (2, .int 0)]) C [1, 2, 0] dX6_sortYear_1 rfl (by decide) rfl ?_
  refine v_iconst (v := 0) C dX6_sortYear_2 (by decide) ?_
  refine v_istore_n (lv' := [(0, .ref (ad b)), (1, .int y), (2, .int 0), (3, .int 0)]) C [1, 2, 3, 0] dX6_sortYear_3 rfl (by decide) rfl ?_
  have LP1 : ∀ (t : Nat) (c : Nat) (y2 : Int32) (r1 : Nat) (y3 : Int32) (E4 : Nat → va_E) (yw1 : Nat → Int32) (yo1 : Nat → Int32), (y2.toInt = (c : Int)) → (y3.toInt = (r1 : Int)) → (E4 (b + 4) = aI G 8 yw1) → (E4 (b + 5) = aI G 8 yo1) → (∀ j, j ≠ (b + 4) → j ≠ (b + 5) → E4 j = E j) → (r1 ≤ rt) → (c ≤ r1) → (AR c yw1 yo1 (ylL (fun r y => (rw1 (100 * r + y)).toInt) (fun r => (ro r).toInt) Y r1)) → (rt : Int) - (r1 : Int) < (t : Int) → V X G A 8 (QI X G A (n) ad (fun r E' => ∃ (c : Nat) (yw1 yo1 : Nat → Int32), r.toInt = (c : Int) ∧ c ≤ rt ∧ E' (b + 4) = aI G 8 yw1 ∧ E' (b + 5) = aI G 8 yo1 ∧ AR c yw1 yo1 (ylL (fun r y => (rw1 (100 * r + y)).toInt) (fun r => (ro r).toInt) Y rt) ∧ ∀ j, j ≠ b + 4 → j ≠ b + 5 → E' j = E j)) (n) ad 0 0 E4 4 [(0, .ref (ad b)), (1, .int y), (2, .int y2), (3, .int y3)] [] := by
    intro t9
    induction t9 with
    | zero => intro c y2 r1 y3 E4 yw1 yo1 hy2 hy3 hE4_b4 hE4_b5 hfr5 hq6 hq7 hq8 hm11; exfalso; omega
    | succ t9 ih10 =>
      intro c y2 r1 y3 E4 yw1 yo1 hy2 hy3 hE4_b4 hE4_b5 hfr5 hq6 hq7 hq8 hm11
      have hE4_b := (hfr5 b (by omega) (by omega)).trans hB
      have hE4_b2 := (hfr5 (b + 2) (by omega) (by omega)).trans h2
      have hE4_b3 := (hfr5 (b + 3) (by omega) (by omega)).trans h3
      refine v_iload_n C 3 dX6_sortYear_4 rfl rfl ?_
      refine v_aload_n C 0 dX6_sortYear_5 rfl rfl ?_
      refine v_geti (v := ib 9) C b dX6_sortYear_6 fX6_41 (by omega) hE4_b rfl rfl ?_
      refine b_icmp_ge C 171 dX6_sortYear_9 (by decide) hy3 hrt (fun c12 => ?_) (fun c12 => ?_)
      · refine v_iload_n C 2 dX6_sortYear_171 rfl rfl ?_
        exact v_ret C dX6_sortYear_172 rfl rfl ⟨c, _, _, hy2, by omega, hE4_b4, hE4_b5, (by rw [show rt = r1 by omega]; exact hq8), fun j g4 g5 => (hfr5 j g4 g5)⟩
      · refine v_aload_n C 0 dX6_sortYear_12 rfl rfl ?_
        refine v_getr C b dX6_sortYear_13 fX6_18 (by omega) hE4_b rfl rfl ?_
        refine v_iload_n C 3 dX6_sortYear_16 rfl rfl ?_
        refine v_bipush (v := 100) C dX6_sortYear_17 (by decide) ?_
        refine v_imul C dX6_sortYear_19 ?_
        refine v_top (fun x13 ex13 => ?_)
        have hx13 : x13.toInt = ((r1 : Int) * 100) := by rw [ex13]; exact ti_mul hy3 (show (100 : Int32).toInt = 100 by decide) (by omega) (by omega)
        refine v_iload_n C 1 dX6_sortYear_20 rfl rfl ?_
        refine v_iadd C dX6_sortYear_21 ?_
        refine v_top (fun x14 ex14 => ?_)
        have hx14 : x14.toInt = (((r1 : Int) * 100) + (Y : Int)) := by rw [ex14]; exact ti_add hx13 hy (by omega) (by omega)
        refine v_ald (v := rw1 (100 * r1 + Y)) C (b + 3) dX6_sortYear_22 (by omega) hE4_b3 (ti_in hx14 (by omega) (by omega)) (by rw [ti_cl hx14, show Int.toNat (((r1 : Int) * 100) + (Y : Int)) = 100 * r1 + Y by omega]) ?_
        refine v_istore (lv' := [(0, .ref (ad b)), (1, .int y), (2, .int y2), (3, .int y3), (4, .int (rw1 (100 * r1 + Y)))]) C [1, 2, 3, 4, 0] dX6_sortYear_23 (by decide) rfl ?_
        refine v_iload C 4 dX6_sortYear_25 rfl ?_
        refine v_iconst (v := (-1)) C dX6_sortYear_27 (by decide) ?_
        refine b_icmp_ne C 34 dX6_sortYear_28 (by decide) (rfl : Int32.toInt (rw1 (100 * r1 + Y)) = _) (show ((-1) : Int32).toInt = (-1) by decide) (fun c15 => ?_) (fun c15 => ?_)
        · refine v_iload_n C 2 dX6_sortYear_34 rfl rfl ?_
          refine v_istore (lv' := [(0, .ref (ad b)), (1, .int y), (2, .int y2), (3, .int y3), (4, .int (rw1 (100 * r1 + Y))), (5, .int y2)]) C [1, 2, 3, 4, 5, 0] dX6_sortYear_35 (by decide) rfl ?_
          have LP16 : ∀ (t : Nat) (a : Nat) (y17 : Int32) (E18 : Nat → va_E), (y17.toInt = (a : Int)) → (∀ j, E18 j = E4 j) → (a ≤ c) → (∀ i, a ≤ i → i < c → (rw1 (100 * r1 + Y)).toInt ≤ (yw1 i).toInt) → (a : Int) < (t : Int) → V X G A 8 (QI X G A (n) ad (fun r E' => ∃ (c : Nat) (yw1 yo1 : Nat → Int32), r.toInt = (c : Int) ∧ c ≤ rt ∧ E' (b + 4) = aI G 8 yw1 ∧ E' (b + 5) = aI G 8 yo1 ∧ AR c yw1 yo1 (ylL (fun r y => (rw1 (100 * r + y)).toInt) (fun r => (ro r).toInt) Y rt) ∧ ∀ j, j ≠ b + 4 → j ≠ b + 5 → E' j = E j)) (n) ad 0 0 E18 37 [(0, .ref (ad b)), (1, .int y), (2, .int y2), (3, .int y3), (4, .int (rw1 (100 * r1 + Y))), (5, .int y17)] [] := by
            intro t22
            induction t22 with
            | zero => intro a y17 E18 hy17 hfr19 hq20 hq21 hm24; exfalso; omega
            | succ t22 ih23 =>
              intro a y17 E18 hy17 hfr19 hq20 hq21 hm24
              have hE18_b := (hfr19 b ).trans hE4_b
              have hE18_b2 := (hfr19 (b + 2) ).trans hE4_b2
              have hE18_b3 := (hfr19 (b + 3) ).trans hE4_b3
              have hE18_b4 := (hfr19 (b + 4) ).trans hE4_b4
              have hE18_b5 := (hfr19 (b + 5) ).trans hE4_b5
              refine v_iload C 5 dX6_sortYear_37 rfl ?_
              refine b_if_le C 62 dX6_sortYear_39 (by decide) hy17 (fun c25 => ?_) (fun c25 => ?_)
              · refine v_iload C 5 dX6_sortYear_62 rfl ?_
                refine v_iload_n C 2 dX6_sortYear_64 rfl rfl ?_
                refine b_icmp_ge C 84 dX6_sortYear_65 (by decide) hy17 hy2 (fun c26 => ?_) (fun c26 => ?_)
                · have hns27 : a < c → ¬ (yw1 a).toInt = (rw1 (100 * r1 + Y)).toInt := by intro _; omega
                  refine v_iconst (v := 0) C dX6_sortYear_84 (by decide) ?_
                  refine v_istore (lv' := [(0, .ref (ad b)), (1, .int y), (2, .int y2), (3, .int y3), (4, .int (rw1 (100 * r1 + Y))), (5, .int y17), (6, .int 0)]) C [1, 2, 3, 4, 5, 6, 0] dX6_sortYear_85 (by decide) rfl ?_
                  refine v_iload C 6 dX6_sortYear_87 rfl ?_
                  refine b_if_ne C 143 dX6_sortYear_89 (by decide) (show (0 : Int32).toInt = 0 by decide) (fun c28 => absurd c28 (by decide)) (fun c28 => ?_)
                  refine v_iload_n C 2 dX6_sortYear_92 rfl rfl ?_
                  refine v_istore (lv' := [(0, .ref (ad b)), (1, .int y), (2, .int y2), (3, .int y3), (4, .int (rw1 (100 * r1 + Y))), (5, .int y17), (6, .int 0), (7, .int y2)]) C [1, 2, 3, 4, 5, 6, 7, 0] dX6_sortYear_93 (by decide) rfl ?_
                  have LP29 : ∀ (t : Nat) (i : Nat) (y30 : Int32) (E31 : Nat → va_E) (yw2 : Nat → Int32) (yo2 : Nat → Int32), (y30.toInt = (i : Int)) → (E31 (b + 4) = aI G 8 yw2) → (E31 (b + 5) = aI G 8 yo2) → (∀ j, j ≠ (b + 4) → j ≠ (b + 5) → E31 j = E18 j) → (a ≤ i) → (i ≤ c) → (∀ q, q ≤ i → yw2 q = yw1 q ∧ yo2 q = yo1 q) → (∀ q, i < q → q ≤ c → yw2 q = yw1 (q - 1) ∧ yo2 q = yo1 (q - 1)) → (i : Int) < (t : Int) → V X G A 8 (QI X G A (n) ad (fun r E' => ∃ (c : Nat) (yw1 yo1 : Nat → Int32), r.toInt = (c : Int) ∧ c ≤ rt ∧ E' (b + 4) = aI G 8 yw1 ∧ E' (b + 5) = aI G 8 yo1 ∧ AR c yw1 yo1 (ylL (fun r y => (rw1 (100 * r + y)).toInt) (fun r => (ro r).toInt) Y rt) ∧ ∀ j, j ≠ b + 4 → j ≠ b + 5 → E' j = E j)) (n) ad 0 0 E31 95 [(0, .ref (ad b)), (1, .int y), (2, .int y2), (3, .int y3), (4, .int (rw1 (100 * r1 + Y))), (5, .int y17), (7, .int y30)] [] := by
                    intro t37
                    induction t37 with
                    | zero => intro i y30 E31 yw2 yo2 hy30 hE31_b4 hE31_b5 hfr32 hq33 hq34 hq35 hq36 hm39; exfalso; omega
                    | succ t37 ih38 =>
                      intro i y30 E31 yw2 yo2 hy30 hE31_b4 hE31_b5 hfr32 hq33 hq34 hq35 hq36 hm39
                      have hE31_b := (hfr32 b (by omega) (by omega)).trans hE18_b
                      have hE31_b2 := (hfr32 (b + 2) (by omega) (by omega)).trans hE18_b2
                      have hE31_b3 := (hfr32 (b + 3) (by omega) (by omega)).trans hE18_b3
                      refine v_iload C 6 dX6_sortYear_95 rfl ?_
                      refine v_iload C 5 dX6_sortYear_97 rfl ?_
                      refine b_icmp_le C 140 dX6_sortYear_99 (by decide) hy30 hy17 (fun c40 => ?_) (fun c40 => ?_)
                      · obtain ⟨x41, ex41⟩ : ∃ y : Int32, y = y2 + 1 := ⟨_, rfl⟩
                        have hx41 : x41.toInt = ((c : Int) + 1) := by rw [ex41]; exact ti_add hy2 (show (1 : Int32).toInt = 1 by decide) (by omega) (by omega)
                        refine v_iinc (v := x41) (lv' := [(0, .ref (ad b)), (1, .int y), (2, .int x41), (3, .int y3), (4, .int (rw1 (100 * r1 + Y))), (5, .int y17), (7, .int y30)]) C 2 [1, 2, 0, 3, 4, 5, 6] dX6_sortYear_140 rfl (ex41.symm) (by decide) rfl ?_
                        refine v_aload_n C 0 dX6_sortYear_143 rfl rfl ?_
                        refine v_getr C b dX6_sortYear_144 fX6_21 (by omega) hE31_b rfl rfl ?_
                        refine v_iload C 5 dX6_sortYear_147 rfl ?_
                        refine v_iload C 4 dX6_sortYear_149 rfl ?_
                        refine v_ast C (b + 4) dX6_sortYear_151 (by omega) hE31_b4 (ti_in hy17 (by omega) (by omega)) (fun E42 hE42_b4 oE42 => ?_)
                        rw [ti_cl hy17, show Int.toNat (a : Int) = a by omega] at hE42_b4
                        have hE42_b := (oE42 b (by omega)).trans hE31_b
                        have hE42_b2 := (oE42 (b + 2) (by omega)).trans hE31_b2
                        have hE42_b3 := (oE42 (b + 3) (by omega)).trans hE31_b3
                        have hE42_b5 := (oE42 (b + 5) (by omega)).trans hE31_b5
                        refine v_aload_n C 0 dX6_sortYear_152 rfl rfl ?_
                        refine v_getr C b dX6_sortYear_153 fX6_24 (by omega) hE42_b rfl rfl ?_
                        refine v_iload C 5 dX6_sortYear_156 rfl ?_
                        refine v_aload_n C 0 dX6_sortYear_158 rfl rfl ?_
                        refine v_getr C b dX6_sortYear_159 fX6_15 (by omega) hE42_b rfl rfl ?_
                        refine v_iload_n C 3 dX6_sortYear_162 rfl rfl ?_
                        refine v_ald (v := ro r1) C (b + 2) dX6_sortYear_163 (by omega) hE42_b2 (ti_in hy3 (by omega) (by omega)) (by rw [ti_cl hy3, show Int.toNat (r1 : Int) = r1 by omega]) ?_
                        refine v_ast C (b + 5) dX6_sortYear_164 (by omega) hE42_b5 (ti_in hy17 (by omega) (by omega)) (fun E43 hE43_b5 oE43 => ?_)
                        rw [ti_cl hy17, show Int.toNat (a : Int) = a by omega] at hE43_b5
                        have hE43_b := (oE43 b (by omega)).trans hE42_b
                        have hE43_b2 := (oE43 (b + 2) (by omega)).trans hE42_b2
                        have hE43_b3 := (oE43 (b + 3) (by omega)).trans hE42_b3
                        have hE43_b4 := (oE43 (b + 4) (by omega)).trans hE42_b4
                        obtain ⟨x44, ex44⟩ : ∃ y : Int32, y = y3 + 1 := ⟨_, rfl⟩
                        have hx44 : x44.toInt = ((r1 : Int) + 1) := by rw [ex44]; exact ti_add hy3 (show (1 : Int32).toInt = 1 by decide) (by omega) (by omega)
                        refine v_iinc (v := x44) (lv' := [(0, .ref (ad b)), (1, .int y), (2, .int x41), (3, .int x44), (4, .int (rw1 (100 * r1 + Y))), (5, .int y17), (7, .int y30)]) C 3 [1, 2, 3, 0, 4, 5, 6] dX6_sortYear_165 rfl (ex44.symm) (by decide) rfl ?_
                        refine v_goto C 4 dX6_sortYear_168 (by decide) ?_
                        refine v_sub (lv' := [(0, .ref (ad b)), (1, .int y), (2, .int x41), (3, .int x44)]) [0, 1, 2, 3] rfl ?_
                        exact ih10 (c + 1) x41 (r1 + 1) x44 E43 (upd yw2 a (rw1 (100 * r1 + Y))) (upd yo2 a (ro r1)) (show Int32.toInt x41 = ((c + 1 : Nat) : Int) by have := hx41; omega) (show Int32.toInt x44 = ((r1 + 1 : Nat) : Int) by have := hx44; omega) hE43_b4 hE43_b5 (fun j g0 g1 => ((oE43 j g1).trans ((oE42 j g0).trans ((hfr32 j g0 g1).trans ((hfr19 j ).trans (hfr5 j g0 g1)))))) (by omega) (by omega) (by rw [yl_s (by show ¬ (rw1 (100 * r1 + Y)).toInt = -1; omega)]; exact AR_new hq8 (k := a) (by omega) (AR_low hq8 (yl_srt r1) (by omega) (by first | (left; omega) | (right; omega))) (fun hk => by have q := hq21 a (Nat.le_refl a) hk; have := hns27 hk; omega) (fun i hi => ⟨(upd_ne (by omega)).trans (hq35 i (by omega)).1, (upd_ne (by omega)).trans (hq35 i (by omega)).2⟩) ⟨by rw [upd_same], by rw [upd_same]⟩ (fun i h1 h2 => ⟨(upd_ne (by omega)).trans (hq36 i (by omega) h2).1, (upd_ne (by omega)).trans (hq36 i (by omega) h2).2⟩)) (by omega)
                      · refine v_aload_n C 0 dX6_sortYear_102 rfl rfl ?_
                        refine v_getr C b dX6_sortYear_103 fX6_21 (by omega) hE31_b rfl rfl ?_
                        refine v_iload C 6 dX6_sortYear_106 rfl ?_
                        refine v_aload_n C 0 dX6_sortYear_108 rfl rfl ?_
                        refine v_getr C b dX6_sortYear_109 fX6_21 (by omega) hE31_b rfl rfl ?_
                        refine v_iload C 6 dX6_sortYear_112 rfl ?_
                        refine v_iconst (v := 1) C dX6_sortYear_114 (by decide) ?_
                        refine v_isub C dX6_sortYear_115 ?_
                        refine v_top (fun x45 ex45 => ?_)
                        have hx45 : x45.toInt = ((i : Int) - 1) := by rw [ex45]; exact ti_sub hy30 (show (1 : Int32).toInt = 1 by decide) (by omega) (by omega)
                        refine v_ald (v := yw2 (i - 1)) C (b + 4) dX6_sortYear_116 (by omega) hE31_b4 (ti_in hx45 (by omega) (by omega)) (by rw [ti_cl hx45, show Int.toNat ((i : Int) - 1) = i - 1 by omega]) ?_
                        refine v_ast C (b + 4) dX6_sortYear_117 (by omega) hE31_b4 (ti_in hy30 (by omega) (by omega)) (fun E46 hE46_b4 oE46 => ?_)
                        rw [ti_cl hy30, show Int.toNat (i : Int) = i by omega] at hE46_b4
                        have hE46_b := (oE46 b (by omega)).trans hE31_b
                        have hE46_b2 := (oE46 (b + 2) (by omega)).trans hE31_b2
                        have hE46_b3 := (oE46 (b + 3) (by omega)).trans hE31_b3
                        have hE46_b5 := (oE46 (b + 5) (by omega)).trans hE31_b5
                        refine v_aload_n C 0 dX6_sortYear_118 rfl rfl ?_
                        refine v_getr C b dX6_sortYear_119 fX6_24 (by omega) hE46_b rfl rfl ?_
                        refine v_iload C 6 dX6_sortYear_122 rfl ?_
                        refine v_aload_n C 0 dX6_sortYear_124 rfl rfl ?_
                        refine v_getr C b dX6_sortYear_125 fX6_24 (by omega) hE46_b rfl rfl ?_
                        refine v_iload C 6 dX6_sortYear_128 rfl ?_
                        refine v_iconst (v := 1) C dX6_sortYear_130 (by decide) ?_
                        refine v_isub C dX6_sortYear_131 ?_
                        refine v_top (fun x47 ex47 => ?_)
                        have hx47 : x47.toInt = ((i : Int) - 1) := by rw [ex47]; exact ti_sub hy30 (show (1 : Int32).toInt = 1 by decide) (by omega) (by omega)
                        refine v_ald (v := yo2 (i - 1)) C (b + 5) dX6_sortYear_132 (by omega) hE46_b5 (ti_in hx47 (by omega) (by omega)) (by rw [ti_cl hx47, show Int.toNat ((i : Int) - 1) = i - 1 by omega]) ?_
                        refine v_ast C (b + 5) dX6_sortYear_133 (by omega) hE46_b5 (ti_in hy30 (by omega) (by omega)) (fun E48 hE48_b5 oE48 => ?_)
                        rw [ti_cl hy30, show Int.toNat (i : Int) = i by omega] at hE48_b5
                        have hE48_b := (oE48 b (by omega)).trans hE46_b
                        have hE48_b2 := (oE48 (b + 2) (by omega)).trans hE46_b2
                        have hE48_b3 := (oE48 (b + 3) (by omega)).trans hE46_b3
                        have hE48_b4 := (oE48 (b + 4) (by omega)).trans hE46_b4
                        obtain ⟨x49, ex49⟩ : ∃ y : Int32, y = y30 + (-1) := ⟨_, rfl⟩
                        have hx49 : x49.toInt = ((i : Int) + (-1)) := by rw [ex49]; exact ti_add hy30 (show ((-1) : Int32).toInt = (-1) by decide) (by omega) (by omega)
                        refine v_iinc (v := x49) (lv' := [(0, .ref (ad b)), (1, .int y), (2, .int y2), (3, .int y3), (4, .int (rw1 (100 * r1 + Y))), (5, .int y17), (7, .int x49)]) C 6 [1, 2, 3, 4, 5, 6, 0] dX6_sortYear_134 rfl (ex49.symm) (by decide) rfl ?_
                        refine v_goto C 95 dX6_sortYear_137 (by decide) ?_
                        exact ih38 (i - 1) x49 E48 (upd yw2 i (yw2 (i - 1))) (upd yo2 i (yo2 (i - 1))) (show Int32.toInt x49 = ((i - 1 : Nat) : Int) by have := hx49; omega) hE48_b4 hE48_b5 (fun j g0 g1 => ((oE48 j g1).trans ((oE46 j g0).trans (hfr32 j g0 g1)))) (by omega) (by omega) (fun q hq => ⟨(upd_ne (by omega)).trans (hq35 q (by omega)).1, (upd_ne (by omega)).trans (hq35 q (by omega)).2⟩) (fun q h1 h2 => by by_cases e : q = i; (rw [e, upd_same, upd_same]; exact hq35 (i - 1) (by omega)); (rw [upd_ne e, upd_ne e]; exact hq36 q (by omega) h2)) (by omega)
                  refine v_sub (lv' := [(0, .ref (ad b)), (1, .int y), (2, .int y2), (3, .int y3), (4, .int (rw1 (100 * r1 + Y))), (5, .int y17), (7, .int y2)]) [0, 1, 2, 3, 4, 5, 7] rfl ?_
                  exact LP29 100000 c y2 E18 yw1 yo1 (show Int32.toInt y2 = ((c : Nat) : Int) by have := hy2; omega) hE18_b4 hE18_b5 (fun j _ _ => rfl) (by omega) (by omega) (fun q _ => ⟨rfl, rfl⟩) (fun q h1 h2 => absurd h2 (by omega)) (by omega)
                · refine v_aload_n C 0 dX6_sortYear_68 rfl rfl ?_
                  refine v_getr C b dX6_sortYear_69 fX6_21 (by omega) hE18_b rfl rfl ?_
                  refine v_iload C 5 dX6_sortYear_72 rfl ?_
                  refine v_ald (v := yw1 a) C (b + 4) dX6_sortYear_74 (by omega) hE18_b4 (ti_in hy17 (by omega) (by omega)) (by rw [ti_cl hy17, show Int.toNat (a : Int) = a by omega]) ?_
                  refine v_iload C 4 dX6_sortYear_75 rfl ?_
                  refine b_icmp_ne C 84 dX6_sortYear_77 (by decide) (rfl : Int32.toInt (yw1 a) = _) (rfl : Int32.toInt (rw1 (100 * r1 + Y)) = _) (fun c50 => ?_) (fun c50 => ?_)
                  · have hns51 : a < c → ¬ (yw1 a).toInt = (rw1 (100 * r1 + Y)).toInt := by intro _; omega
                    refine v_iconst (v := 0) C dX6_sortYear_84 (by decide) ?_
                    refine v_istore (lv' := [(0, .ref (ad b)), (1, .int y), (2, .int y2), (3, .int y3), (4, .int (rw1 (100 * r1 + Y))), (5, .int y17), (6, .int 0)]) C [1, 2, 3, 4, 5, 6, 0] dX6_sortYear_85 (by decide) rfl ?_
                    refine v_iload C 6 dX6_sortYear_87 rfl ?_
                    refine b_if_ne C 143 dX6_sortYear_89 (by decide) (show (0 : Int32).toInt = 0 by decide) (fun c52 => absurd c52 (by decide)) (fun c52 => ?_)
                    refine v_iload_n C 2 dX6_sortYear_92 rfl rfl ?_
                    refine v_istore (lv' := [(0, .ref (ad b)), (1, .int y), (2, .int y2), (3, .int y3), (4, .int (rw1 (100 * r1 + Y))), (5, .int y17), (6, .int 0), (7, .int y2)]) C [1, 2, 3, 4, 5, 6, 7, 0] dX6_sortYear_93 (by decide) rfl ?_
                    have LP53 : ∀ (t : Nat) (i : Nat) (y54 : Int32) (E55 : Nat → va_E) (yw2 : Nat → Int32) (yo2 : Nat → Int32), (y54.toInt = (i : Int)) → (E55 (b + 4) = aI G 8 yw2) → (E55 (b + 5) = aI G 8 yo2) → (∀ j, j ≠ (b + 4) → j ≠ (b + 5) → E55 j = E18 j) → (a ≤ i) → (i ≤ c) → (∀ q, q ≤ i → yw2 q = yw1 q ∧ yo2 q = yo1 q) → (∀ q, i < q → q ≤ c → yw2 q = yw1 (q - 1) ∧ yo2 q = yo1 (q - 1)) → (i : Int) < (t : Int) → V X G A 8 (QI X G A (n) ad (fun r E' => ∃ (c : Nat) (yw1 yo1 : Nat → Int32), r.toInt = (c : Int) ∧ c ≤ rt ∧ E' (b + 4) = aI G 8 yw1 ∧ E' (b + 5) = aI G 8 yo1 ∧ AR c yw1 yo1 (ylL (fun r y => (rw1 (100 * r + y)).toInt) (fun r => (ro r).toInt) Y rt) ∧ ∀ j, j ≠ b + 4 → j ≠ b + 5 → E' j = E j)) (n) ad 0 0 E55 95 [(0, .ref (ad b)), (1, .int y), (2, .int y2), (3, .int y3), (4, .int (rw1 (100 * r1 + Y))), (5, .int y17), (7, .int y54)] [] := by
                      intro t61
                      induction t61 with
                      | zero => intro i y54 E55 yw2 yo2 hy54 hE55_b4 hE55_b5 hfr56 hq57 hq58 hq59 hq60 hm63; exfalso; omega
                      | succ t61 ih62 =>
                        intro i y54 E55 yw2 yo2 hy54 hE55_b4 hE55_b5 hfr56 hq57 hq58 hq59 hq60 hm63
                        have hE55_b := (hfr56 b (by omega) (by omega)).trans hE18_b
                        have hE55_b2 := (hfr56 (b + 2) (by omega) (by omega)).trans hE18_b2
                        have hE55_b3 := (hfr56 (b + 3) (by omega) (by omega)).trans hE18_b3
                        refine v_iload C 6 dX6_sortYear_95 rfl ?_
                        refine v_iload C 5 dX6_sortYear_97 rfl ?_
                        refine b_icmp_le C 140 dX6_sortYear_99 (by decide) hy54 hy17 (fun c64 => ?_) (fun c64 => ?_)
                        · obtain ⟨x65, ex65⟩ : ∃ y : Int32, y = y2 + 1 := ⟨_, rfl⟩
                          have hx65 : x65.toInt = ((c : Int) + 1) := by rw [ex65]; exact ti_add hy2 (show (1 : Int32).toInt = 1 by decide) (by omega) (by omega)
                          refine v_iinc (v := x65) (lv' := [(0, .ref (ad b)), (1, .int y), (2, .int x65), (3, .int y3), (4, .int (rw1 (100 * r1 + Y))), (5, .int y17), (7, .int y54)]) C 2 [1, 2, 0, 3, 4, 5, 6] dX6_sortYear_140 rfl (ex65.symm) (by decide) rfl ?_
                          refine v_aload_n C 0 dX6_sortYear_143 rfl rfl ?_
                          refine v_getr C b dX6_sortYear_144 fX6_21 (by omega) hE55_b rfl rfl ?_
                          refine v_iload C 5 dX6_sortYear_147 rfl ?_
                          refine v_iload C 4 dX6_sortYear_149 rfl ?_
                          refine v_ast C (b + 4) dX6_sortYear_151 (by omega) hE55_b4 (ti_in hy17 (by omega) (by omega)) (fun E66 hE66_b4 oE66 => ?_)
                          rw [ti_cl hy17, show Int.toNat (a : Int) = a by omega] at hE66_b4
                          have hE66_b := (oE66 b (by omega)).trans hE55_b
                          have hE66_b2 := (oE66 (b + 2) (by omega)).trans hE55_b2
                          have hE66_b3 := (oE66 (b + 3) (by omega)).trans hE55_b3
                          have hE66_b5 := (oE66 (b + 5) (by omega)).trans hE55_b5
                          refine v_aload_n C 0 dX6_sortYear_152 rfl rfl ?_
                          refine v_getr C b dX6_sortYear_153 fX6_24 (by omega) hE66_b rfl rfl ?_
                          refine v_iload C 5 dX6_sortYear_156 rfl ?_
                          refine v_aload_n C 0 dX6_sortYear_158 rfl rfl ?_
                          refine v_getr C b dX6_sortYear_159 fX6_15 (by omega) hE66_b rfl rfl ?_
                          refine v_iload_n C 3 dX6_sortYear_162 rfl rfl ?_
                          refine v_ald (v := ro r1) C (b + 2) dX6_sortYear_163 (by omega) hE66_b2 (ti_in hy3 (by omega) (by omega)) (by rw [ti_cl hy3, show Int.toNat (r1 : Int) = r1 by omega]) ?_
                          refine v_ast C (b + 5) dX6_sortYear_164 (by omega) hE66_b5 (ti_in hy17 (by omega) (by omega)) (fun E67 hE67_b5 oE67 => ?_)
                          rw [ti_cl hy17, show Int.toNat (a : Int) = a by omega] at hE67_b5
                          have hE67_b := (oE67 b (by omega)).trans hE66_b
                          have hE67_b2 := (oE67 (b + 2) (by omega)).trans hE66_b2
                          have hE67_b3 := (oE67 (b + 3) (by omega)).trans hE66_b3
                          have hE67_b4 := (oE67 (b + 4) (by omega)).trans hE66_b4
                          obtain ⟨x68, ex68⟩ : ∃ y : Int32, y = y3 + 1 := ⟨_, rfl⟩
                          have hx68 : x68.toInt = ((r1 : Int) + 1) := by rw [ex68]; exact ti_add hy3 (show (1 : Int32).toInt = 1 by decide) (by omega) (by omega)
                          refine v_iinc (v := x68) (lv' := [(0, .ref (ad b)), (1, .int y), (2, .int x65), (3, .int x68), (4, .int (rw1 (100 * r1 + Y))), (5, .int y17), (7, .int y54)]) C 3 [1, 2, 3, 0, 4, 5, 6] dX6_sortYear_165 rfl (ex68.symm) (by decide) rfl ?_
                          refine v_goto C 4 dX6_sortYear_168 (by decide) ?_
                          refine v_sub (lv' := [(0, .ref (ad b)), (1, .int y), (2, .int x65), (3, .int x68)]) [0, 1, 2, 3] rfl ?_
                          exact ih10 (c + 1) x65 (r1 + 1) x68 E67 (upd yw2 a (rw1 (100 * r1 + Y))) (upd yo2 a (ro r1)) (show Int32.toInt x65 = ((c + 1 : Nat) : Int) by have := hx65; omega) (show Int32.toInt x68 = ((r1 + 1 : Nat) : Int) by have := hx68; omega) hE67_b4 hE67_b5 (fun j g0 g1 => ((oE67 j g1).trans ((oE66 j g0).trans ((hfr56 j g0 g1).trans ((hfr19 j ).trans (hfr5 j g0 g1)))))) (by omega) (by omega) (by rw [yl_s (by show ¬ (rw1 (100 * r1 + Y)).toInt = -1; omega)]; exact AR_new hq8 (k := a) (by omega) (AR_low hq8 (yl_srt r1) (by omega) (by first | (left; omega) | (right; omega))) (fun hk => by have q := hq21 a (Nat.le_refl a) hk; have := hns51 hk; omega) (fun i hi => ⟨(upd_ne (by omega)).trans (hq59 i (by omega)).1, (upd_ne (by omega)).trans (hq59 i (by omega)).2⟩) ⟨by rw [upd_same], by rw [upd_same]⟩ (fun i h1 h2 => ⟨(upd_ne (by omega)).trans (hq60 i (by omega) h2).1, (upd_ne (by omega)).trans (hq60 i (by omega) h2).2⟩)) (by omega)
                        · refine v_aload_n C 0 dX6_sortYear_102 rfl rfl ?_
                          refine v_getr C b dX6_sortYear_103 fX6_21 (by omega) hE55_b rfl rfl ?_
                          refine v_iload C 6 dX6_sortYear_106 rfl ?_
                          refine v_aload_n C 0 dX6_sortYear_108 rfl rfl ?_
                          refine v_getr C b dX6_sortYear_109 fX6_21 (by omega) hE55_b rfl rfl ?_
                          refine v_iload C 6 dX6_sortYear_112 rfl ?_
                          refine v_iconst (v := 1) C dX6_sortYear_114 (by decide) ?_
                          refine v_isub C dX6_sortYear_115 ?_
                          refine v_top (fun x69 ex69 => ?_)
                          have hx69 : x69.toInt = ((i : Int) - 1) := by rw [ex69]; exact ti_sub hy54 (show (1 : Int32).toInt = 1 by decide) (by omega) (by omega)
                          refine v_ald (v := yw2 (i - 1)) C (b + 4) dX6_sortYear_116 (by omega) hE55_b4 (ti_in hx69 (by omega) (by omega)) (by rw [ti_cl hx69, show Int.toNat ((i : Int) - 1) = i - 1 by omega]) ?_
                          refine v_ast C (b + 4) dX6_sortYear_117 (by omega) hE55_b4 (ti_in hy54 (by omega) (by omega)) (fun E70 hE70_b4 oE70 => ?_)
                          rw [ti_cl hy54, show Int.toNat (i : Int) = i by omega] at hE70_b4
                          have hE70_b := (oE70 b (by omega)).trans hE55_b
                          have hE70_b2 := (oE70 (b + 2) (by omega)).trans hE55_b2
                          have hE70_b3 := (oE70 (b + 3) (by omega)).trans hE55_b3
                          have hE70_b5 := (oE70 (b + 5) (by omega)).trans hE55_b5
                          refine v_aload_n C 0 dX6_sortYear_118 rfl rfl ?_
                          refine v_getr C b dX6_sortYear_119 fX6_24 (by omega) hE70_b rfl rfl ?_
                          refine v_iload C 6 dX6_sortYear_122 rfl ?_
                          refine v_aload_n C 0 dX6_sortYear_124 rfl rfl ?_
                          refine v_getr C b dX6_sortYear_125 fX6_24 (by omega) hE70_b rfl rfl ?_
                          refine v_iload C 6 dX6_sortYear_128 rfl ?_
                          refine v_iconst (v := 1) C dX6_sortYear_130 (by decide) ?_
                          refine v_isub C dX6_sortYear_131 ?_
                          refine v_top (fun x71 ex71 => ?_)
                          have hx71 : x71.toInt = ((i : Int) - 1) := by rw [ex71]; exact ti_sub hy54 (show (1 : Int32).toInt = 1 by decide) (by omega) (by omega)
                          refine v_ald (v := yo2 (i - 1)) C (b + 5) dX6_sortYear_132 (by omega) hE70_b5 (ti_in hx71 (by omega) (by omega)) (by rw [ti_cl hx71, show Int.toNat ((i : Int) - 1) = i - 1 by omega]) ?_
                          refine v_ast C (b + 5) dX6_sortYear_133 (by omega) hE70_b5 (ti_in hy54 (by omega) (by omega)) (fun E72 hE72_b5 oE72 => ?_)
                          rw [ti_cl hy54, show Int.toNat (i : Int) = i by omega] at hE72_b5
                          have hE72_b := (oE72 b (by omega)).trans hE70_b
                          have hE72_b2 := (oE72 (b + 2) (by omega)).trans hE70_b2
                          have hE72_b3 := (oE72 (b + 3) (by omega)).trans hE70_b3
                          have hE72_b4 := (oE72 (b + 4) (by omega)).trans hE70_b4
                          obtain ⟨x73, ex73⟩ : ∃ y : Int32, y = y54 + (-1) := ⟨_, rfl⟩
                          have hx73 : x73.toInt = ((i : Int) + (-1)) := by rw [ex73]; exact ti_add hy54 (show ((-1) : Int32).toInt = (-1) by decide) (by omega) (by omega)
                          refine v_iinc (v := x73) (lv' := [(0, .ref (ad b)), (1, .int y), (2, .int y2), (3, .int y3), (4, .int (rw1 (100 * r1 + Y))), (5, .int y17), (7, .int x73)]) C 6 [1, 2, 3, 4, 5, 6, 0] dX6_sortYear_134 rfl (ex73.symm) (by decide) rfl ?_
                          refine v_goto C 95 dX6_sortYear_137 (by decide) ?_
                          exact ih62 (i - 1) x73 E72 (upd yw2 i (yw2 (i - 1))) (upd yo2 i (yo2 (i - 1))) (show Int32.toInt x73 = ((i - 1 : Nat) : Int) by have := hx73; omega) hE72_b4 hE72_b5 (fun j g0 g1 => ((oE72 j g1).trans ((oE70 j g0).trans (hfr56 j g0 g1)))) (by omega) (by omega) (fun q hq => ⟨(upd_ne (by omega)).trans (hq59 q (by omega)).1, (upd_ne (by omega)).trans (hq59 q (by omega)).2⟩) (fun q h1 h2 => by by_cases e : q = i; (rw [e, upd_same, upd_same]; exact hq59 (i - 1) (by omega)); (rw [upd_ne e, upd_ne e]; exact hq60 q (by omega) h2)) (by omega)
                    refine v_sub (lv' := [(0, .ref (ad b)), (1, .int y), (2, .int y2), (3, .int y3), (4, .int (rw1 (100 * r1 + Y))), (5, .int y17), (7, .int y2)]) [0, 1, 2, 3, 4, 5, 7] rfl ?_
                    exact LP53 100000 c y2 E18 yw1 yo1 (show Int32.toInt y2 = ((c : Nat) : Int) by have := hy2; omega) hE18_b4 hE18_b5 (fun j _ _ => rfl) (by omega) (by omega) (fun q _ => ⟨rfl, rfl⟩) (fun q h1 h2 => absurd h2 (by omega)) (by omega)
                  · refine v_iconst (v := 1) C dX6_sortYear_80 (by decide) ?_
                    refine v_goto C 85 dX6_sortYear_81 (by decide) ?_
                    refine v_istore (lv' := [(0, .ref (ad b)), (1, .int y), (2, .int y2), (3, .int y3), (4, .int (rw1 (100 * r1 + Y))), (5, .int y17), (6, .int 1)]) C [1, 2, 3, 4, 5, 6, 0] dX6_sortYear_85 (by decide) rfl ?_
                    refine v_iload C 6 dX6_sortYear_87 rfl ?_
                    refine b_if_ne C 143 dX6_sortYear_89 (by decide) (show (1 : Int32).toInt = 1 by decide) (fun c74 => ?_) (fun c74 => absurd c74 (by decide))
                    refine v_aload_n C 0 dX6_sortYear_143 rfl rfl ?_
                    refine v_getr C b dX6_sortYear_144 fX6_21 (by omega) hE18_b rfl rfl ?_
                    refine v_iload C 5 dX6_sortYear_147 rfl ?_
                    refine v_iload C 4 dX6_sortYear_149 rfl ?_
                    refine v_ast C (b + 4) dX6_sortYear_151 (by omega) hE18_b4 (ti_in hy17 (by omega) (by omega)) (fun E75 hE75_b4 oE75 => ?_)
                    rw [ti_cl hy17, show Int.toNat (a : Int) = a by omega] at hE75_b4
                    have hE75_b := (oE75 b (by omega)).trans hE18_b
                    have hE75_b2 := (oE75 (b + 2) (by omega)).trans hE18_b2
                    have hE75_b3 := (oE75 (b + 3) (by omega)).trans hE18_b3
                    have hE75_b5 := (oE75 (b + 5) (by omega)).trans hE18_b5
                    refine v_aload_n C 0 dX6_sortYear_152 rfl rfl ?_
                    refine v_getr C b dX6_sortYear_153 fX6_24 (by omega) hE75_b rfl rfl ?_
                    refine v_iload C 5 dX6_sortYear_156 rfl ?_
                    refine v_aload_n C 0 dX6_sortYear_158 rfl rfl ?_
                    refine v_getr C b dX6_sortYear_159 fX6_15 (by omega) hE75_b rfl rfl ?_
                    refine v_iload_n C 3 dX6_sortYear_162 rfl rfl ?_
                    refine v_ald (v := ro r1) C (b + 2) dX6_sortYear_163 (by omega) hE75_b2 (ti_in hy3 (by omega) (by omega)) (by rw [ti_cl hy3, show Int.toNat (r1 : Int) = r1 by omega]) ?_
                    refine v_ast C (b + 5) dX6_sortYear_164 (by omega) hE75_b5 (ti_in hy17 (by omega) (by omega)) (fun E76 hE76_b5 oE76 => ?_)
                    rw [ti_cl hy17, show Int.toNat (a : Int) = a by omega] at hE76_b5
                    have hE76_b := (oE76 b (by omega)).trans hE75_b
                    have hE76_b2 := (oE76 (b + 2) (by omega)).trans hE75_b2
                    have hE76_b3 := (oE76 (b + 3) (by omega)).trans hE75_b3
                    have hE76_b4 := (oE76 (b + 4) (by omega)).trans hE75_b4
                    obtain ⟨x77, ex77⟩ : ∃ y : Int32, y = y3 + 1 := ⟨_, rfl⟩
                    have hx77 : x77.toInt = ((r1 : Int) + 1) := by rw [ex77]; exact ti_add hy3 (show (1 : Int32).toInt = 1 by decide) (by omega) (by omega)
                    refine v_iinc (v := x77) (lv' := [(0, .ref (ad b)), (1, .int y), (2, .int y2), (3, .int x77), (4, .int (rw1 (100 * r1 + Y))), (5, .int y17), (6, .int 1)]) C 3 [1, 2, 3, 0, 4, 5, 6] dX6_sortYear_165 rfl (ex77.symm) (by decide) rfl ?_
                    refine v_goto C 4 dX6_sortYear_168 (by decide) ?_
                    refine v_sub (lv' := [(0, .ref (ad b)), (1, .int y), (2, .int y2), (3, .int x77)]) [0, 1, 2, 3] rfl ?_
                    exact ih10 c y2 (r1 + 1) x77 E76 (upd yw1 a (rw1 (100 * r1 + Y))) (upd yo1 a (ro r1)) (show Int32.toInt y2 = ((c : Nat) : Int) by have := hy2; omega) (show Int32.toInt x77 = ((r1 + 1 : Nat) : Int) by have := hx77; omega) hE76_b4 hE76_b5 (fun j g0 g1 => ((oE76 j g1).trans ((oE75 j g0).trans ((hfr19 j ).trans (hfr5 j g0 g1))))) (by omega) (by omega) (by rw [yl_s (by show ¬ (rw1 (100 * r1 + Y)).toInt = -1; omega)]; exact AR_same hq8 (k := a) (by omega) (AR_low hq8 (yl_srt r1) (by omega) (by first | (left; omega) | (right; omega))) (by omega) (fun i _ hi => ⟨upd_ne hi, upd_ne hi⟩) ⟨by rw [upd_same], by rw [upd_same]⟩) (by omega)
              · refine v_aload_n C 0 dX6_sortYear_42 rfl rfl ?_
                refine v_getr C b dX6_sortYear_43 fX6_21 (by omega) hE18_b rfl rfl ?_
                refine v_iload C 5 dX6_sortYear_46 rfl ?_
                refine v_iconst (v := 1) C dX6_sortYear_48 (by decide) ?_
                refine v_isub C dX6_sortYear_49 ?_
                refine v_top (fun x78 ex78 => ?_)
                have hx78 : x78.toInt = ((a : Int) - 1) := by rw [ex78]; exact ti_sub hy17 (show (1 : Int32).toInt = 1 by decide) (by omega) (by omega)
                refine v_ald (v := yw1 (a - 1)) C (b + 4) dX6_sortYear_50 (by omega) hE18_b4 (ti_in hx78 (by omega) (by omega)) (by rw [ti_cl hx78, show Int.toNat ((a : Int) - 1) = a - 1 by omega]) ?_
                refine v_iload C 4 dX6_sortYear_51 rfl ?_
                refine b_icmp_lt C 62 dX6_sortYear_53 (by decide) (rfl : Int32.toInt (yw1 (a - 1)) = _) (rfl : Int32.toInt (rw1 (100 * r1 + Y)) = _) (fun c79 => ?_) (fun c79 => ?_)
                · refine v_iload C 5 dX6_sortYear_62 rfl ?_
                  refine v_iload_n C 2 dX6_sortYear_64 rfl rfl ?_
                  refine b_icmp_ge C 84 dX6_sortYear_65 (by decide) hy17 hy2 (fun c80 => ?_) (fun c80 => ?_)
                  · have hns81 : a < c → ¬ (yw1 a).toInt = (rw1 (100 * r1 + Y)).toInt := by intro _; omega
                    refine v_iconst (v := 0) C dX6_sortYear_84 (by decide) ?_
                    refine v_istore (lv' := [(0, .ref (ad b)), (1, .int y), (2, .int y2), (3, .int y3), (4, .int (rw1 (100 * r1 + Y))), (5, .int y17), (6, .int 0)]) C [1, 2, 3, 4, 5, 6, 0] dX6_sortYear_85 (by decide) rfl ?_
                    refine v_iload C 6 dX6_sortYear_87 rfl ?_
                    refine b_if_ne C 143 dX6_sortYear_89 (by decide) (show (0 : Int32).toInt = 0 by decide) (fun c82 => absurd c82 (by decide)) (fun c82 => ?_)
                    refine v_iload_n C 2 dX6_sortYear_92 rfl rfl ?_
                    refine v_istore (lv' := [(0, .ref (ad b)), (1, .int y), (2, .int y2), (3, .int y3), (4, .int (rw1 (100 * r1 + Y))), (5, .int y17), (6, .int 0), (7, .int y2)]) C [1, 2, 3, 4, 5, 6, 7, 0] dX6_sortYear_93 (by decide) rfl ?_
                    have LP83 : ∀ (t : Nat) (i : Nat) (y84 : Int32) (E85 : Nat → va_E) (yw2 : Nat → Int32) (yo2 : Nat → Int32), (y84.toInt = (i : Int)) → (E85 (b + 4) = aI G 8 yw2) → (E85 (b + 5) = aI G 8 yo2) → (∀ j, j ≠ (b + 4) → j ≠ (b + 5) → E85 j = E18 j) → (a ≤ i) → (i ≤ c) → (∀ q, q ≤ i → yw2 q = yw1 q ∧ yo2 q = yo1 q) → (∀ q, i < q → q ≤ c → yw2 q = yw1 (q - 1) ∧ yo2 q = yo1 (q - 1)) → (i : Int) < (t : Int) → V X G A 8 (QI X G A (n) ad (fun r E' => ∃ (c : Nat) (yw1 yo1 : Nat → Int32), r.toInt = (c : Int) ∧ c ≤ rt ∧ E' (b + 4) = aI G 8 yw1 ∧ E' (b + 5) = aI G 8 yo1 ∧ AR c yw1 yo1 (ylL (fun r y => (rw1 (100 * r + y)).toInt) (fun r => (ro r).toInt) Y rt) ∧ ∀ j, j ≠ b + 4 → j ≠ b + 5 → E' j = E j)) (n) ad 0 0 E85 95 [(0, .ref (ad b)), (1, .int y), (2, .int y2), (3, .int y3), (4, .int (rw1 (100 * r1 + Y))), (5, .int y17), (7, .int y84)] [] := by
                      intro t91
                      induction t91 with
                      | zero => intro i y84 E85 yw2 yo2 hy84 hE85_b4 hE85_b5 hfr86 hq87 hq88 hq89 hq90 hm93; exfalso; omega
                      | succ t91 ih92 =>
                        intro i y84 E85 yw2 yo2 hy84 hE85_b4 hE85_b5 hfr86 hq87 hq88 hq89 hq90 hm93
                        have hE85_b := (hfr86 b (by omega) (by omega)).trans hE18_b
                        have hE85_b2 := (hfr86 (b + 2) (by omega) (by omega)).trans hE18_b2
                        have hE85_b3 := (hfr86 (b + 3) (by omega) (by omega)).trans hE18_b3
                        refine v_iload C 6 dX6_sortYear_95 rfl ?_
                        refine v_iload C 5 dX6_sortYear_97 rfl ?_
                        refine b_icmp_le C 140 dX6_sortYear_99 (by decide) hy84 hy17 (fun c94 => ?_) (fun c94 => ?_)
                        · obtain ⟨x95, ex95⟩ : ∃ y : Int32, y = y2 + 1 := ⟨_, rfl⟩
                          have hx95 : x95.toInt = ((c : Int) + 1) := by rw [ex95]; exact ti_add hy2 (show (1 : Int32).toInt = 1 by decide) (by omega) (by omega)
                          refine v_iinc (v := x95) (lv' := [(0, .ref (ad b)), (1, .int y), (2, .int x95), (3, .int y3), (4, .int (rw1 (100 * r1 + Y))), (5, .int y17), (7, .int y84)]) C 2 [1, 2, 0, 3, 4, 5, 6] dX6_sortYear_140 rfl (ex95.symm) (by decide) rfl ?_
                          refine v_aload_n C 0 dX6_sortYear_143 rfl rfl ?_
                          refine v_getr C b dX6_sortYear_144 fX6_21 (by omega) hE85_b rfl rfl ?_
                          refine v_iload C 5 dX6_sortYear_147 rfl ?_
                          refine v_iload C 4 dX6_sortYear_149 rfl ?_
                          refine v_ast C (b + 4) dX6_sortYear_151 (by omega) hE85_b4 (ti_in hy17 (by omega) (by omega)) (fun E96 hE96_b4 oE96 => ?_)
                          rw [ti_cl hy17, show Int.toNat (a : Int) = a by omega] at hE96_b4
                          have hE96_b := (oE96 b (by omega)).trans hE85_b
                          have hE96_b2 := (oE96 (b + 2) (by omega)).trans hE85_b2
                          have hE96_b3 := (oE96 (b + 3) (by omega)).trans hE85_b3
                          have hE96_b5 := (oE96 (b + 5) (by omega)).trans hE85_b5
                          refine v_aload_n C 0 dX6_sortYear_152 rfl rfl ?_
                          refine v_getr C b dX6_sortYear_153 fX6_24 (by omega) hE96_b rfl rfl ?_
                          refine v_iload C 5 dX6_sortYear_156 rfl ?_
                          refine v_aload_n C 0 dX6_sortYear_158 rfl rfl ?_
                          refine v_getr C b dX6_sortYear_159 fX6_15 (by omega) hE96_b rfl rfl ?_
                          refine v_iload_n C 3 dX6_sortYear_162 rfl rfl ?_
                          refine v_ald (v := ro r1) C (b + 2) dX6_sortYear_163 (by omega) hE96_b2 (ti_in hy3 (by omega) (by omega)) (by rw [ti_cl hy3, show Int.toNat (r1 : Int) = r1 by omega]) ?_
                          refine v_ast C (b + 5) dX6_sortYear_164 (by omega) hE96_b5 (ti_in hy17 (by omega) (by omega)) (fun E97 hE97_b5 oE97 => ?_)
                          rw [ti_cl hy17, show Int.toNat (a : Int) = a by omega] at hE97_b5
                          have hE97_b := (oE97 b (by omega)).trans hE96_b
                          have hE97_b2 := (oE97 (b + 2) (by omega)).trans hE96_b2
                          have hE97_b3 := (oE97 (b + 3) (by omega)).trans hE96_b3
                          have hE97_b4 := (oE97 (b + 4) (by omega)).trans hE96_b4
                          obtain ⟨x98, ex98⟩ : ∃ y : Int32, y = y3 + 1 := ⟨_, rfl⟩
                          have hx98 : x98.toInt = ((r1 : Int) + 1) := by rw [ex98]; exact ti_add hy3 (show (1 : Int32).toInt = 1 by decide) (by omega) (by omega)
                          refine v_iinc (v := x98) (lv' := [(0, .ref (ad b)), (1, .int y), (2, .int x95), (3, .int x98), (4, .int (rw1 (100 * r1 + Y))), (5, .int y17), (7, .int y84)]) C 3 [1, 2, 3, 0, 4, 5, 6] dX6_sortYear_165 rfl (ex98.symm) (by decide) rfl ?_
                          refine v_goto C 4 dX6_sortYear_168 (by decide) ?_
                          refine v_sub (lv' := [(0, .ref (ad b)), (1, .int y), (2, .int x95), (3, .int x98)]) [0, 1, 2, 3] rfl ?_
                          exact ih10 (c + 1) x95 (r1 + 1) x98 E97 (upd yw2 a (rw1 (100 * r1 + Y))) (upd yo2 a (ro r1)) (show Int32.toInt x95 = ((c + 1 : Nat) : Int) by have := hx95; omega) (show Int32.toInt x98 = ((r1 + 1 : Nat) : Int) by have := hx98; omega) hE97_b4 hE97_b5 (fun j g0 g1 => ((oE97 j g1).trans ((oE96 j g0).trans ((hfr86 j g0 g1).trans ((hfr19 j ).trans (hfr5 j g0 g1)))))) (by omega) (by omega) (by rw [yl_s (by show ¬ (rw1 (100 * r1 + Y)).toInt = -1; omega)]; exact AR_new hq8 (k := a) (by omega) (AR_low hq8 (yl_srt r1) (by omega) (by first | (left; omega) | (right; omega))) (fun hk => by have q := hq21 a (Nat.le_refl a) hk; have := hns81 hk; omega) (fun i hi => ⟨(upd_ne (by omega)).trans (hq89 i (by omega)).1, (upd_ne (by omega)).trans (hq89 i (by omega)).2⟩) ⟨by rw [upd_same], by rw [upd_same]⟩ (fun i h1 h2 => ⟨(upd_ne (by omega)).trans (hq90 i (by omega) h2).1, (upd_ne (by omega)).trans (hq90 i (by omega) h2).2⟩)) (by omega)
                        · refine v_aload_n C 0 dX6_sortYear_102 rfl rfl ?_
                          refine v_getr C b dX6_sortYear_103 fX6_21 (by omega) hE85_b rfl rfl ?_
                          refine v_iload C 6 dX6_sortYear_106 rfl ?_
                          refine v_aload_n C 0 dX6_sortYear_108 rfl rfl ?_
                          refine v_getr C b dX6_sortYear_109 fX6_21 (by omega) hE85_b rfl rfl ?_
                          refine v_iload C 6 dX6_sortYear_112 rfl ?_
                          refine v_iconst (v := 1) C dX6_sortYear_114 (by decide) ?_
                          refine v_isub C dX6_sortYear_115 ?_
                          refine v_top (fun x99 ex99 => ?_)
                          have hx99 : x99.toInt = ((i : Int) - 1) := by rw [ex99]; exact ti_sub hy84 (show (1 : Int32).toInt = 1 by decide) (by omega) (by omega)
                          refine v_ald (v := yw2 (i - 1)) C (b + 4) dX6_sortYear_116 (by omega) hE85_b4 (ti_in hx99 (by omega) (by omega)) (by rw [ti_cl hx99, show Int.toNat ((i : Int) - 1) = i - 1 by omega]) ?_
                          refine v_ast C (b + 4) dX6_sortYear_117 (by omega) hE85_b4 (ti_in hy84 (by omega) (by omega)) (fun E100 hE100_b4 oE100 => ?_)
                          rw [ti_cl hy84, show Int.toNat (i : Int) = i by omega] at hE100_b4
                          have hE100_b := (oE100 b (by omega)).trans hE85_b
                          have hE100_b2 := (oE100 (b + 2) (by omega)).trans hE85_b2
                          have hE100_b3 := (oE100 (b + 3) (by omega)).trans hE85_b3
                          have hE100_b5 := (oE100 (b + 5) (by omega)).trans hE85_b5
                          refine v_aload_n C 0 dX6_sortYear_118 rfl rfl ?_
                          refine v_getr C b dX6_sortYear_119 fX6_24 (by omega) hE100_b rfl rfl ?_
                          refine v_iload C 6 dX6_sortYear_122 rfl ?_
                          refine v_aload_n C 0 dX6_sortYear_124 rfl rfl ?_
                          refine v_getr C b dX6_sortYear_125 fX6_24 (by omega) hE100_b rfl rfl ?_
                          refine v_iload C 6 dX6_sortYear_128 rfl ?_
                          refine v_iconst (v := 1) C dX6_sortYear_130 (by decide) ?_
                          refine v_isub C dX6_sortYear_131 ?_
                          refine v_top (fun x101 ex101 => ?_)
                          have hx101 : x101.toInt = ((i : Int) - 1) := by rw [ex101]; exact ti_sub hy84 (show (1 : Int32).toInt = 1 by decide) (by omega) (by omega)
                          refine v_ald (v := yo2 (i - 1)) C (b + 5) dX6_sortYear_132 (by omega) hE100_b5 (ti_in hx101 (by omega) (by omega)) (by rw [ti_cl hx101, show Int.toNat ((i : Int) - 1) = i - 1 by omega]) ?_
                          refine v_ast C (b + 5) dX6_sortYear_133 (by omega) hE100_b5 (ti_in hy84 (by omega) (by omega)) (fun E102 hE102_b5 oE102 => ?_)
                          rw [ti_cl hy84, show Int.toNat (i : Int) = i by omega] at hE102_b5
                          have hE102_b := (oE102 b (by omega)).trans hE100_b
                          have hE102_b2 := (oE102 (b + 2) (by omega)).trans hE100_b2
                          have hE102_b3 := (oE102 (b + 3) (by omega)).trans hE100_b3
                          have hE102_b4 := (oE102 (b + 4) (by omega)).trans hE100_b4
                          obtain ⟨x103, ex103⟩ : ∃ y : Int32, y = y84 + (-1) := ⟨_, rfl⟩
                          have hx103 : x103.toInt = ((i : Int) + (-1)) := by rw [ex103]; exact ti_add hy84 (show ((-1) : Int32).toInt = (-1) by decide) (by omega) (by omega)
                          refine v_iinc (v := x103) (lv' := [(0, .ref (ad b)), (1, .int y), (2, .int y2), (3, .int y3), (4, .int (rw1 (100 * r1 + Y))), (5, .int y17), (7, .int x103)]) C 6 [1, 2, 3, 4, 5, 6, 0] dX6_sortYear_134 rfl (ex103.symm) (by decide) rfl ?_
                          refine v_goto C 95 dX6_sortYear_137 (by decide) ?_
                          exact ih92 (i - 1) x103 E102 (upd yw2 i (yw2 (i - 1))) (upd yo2 i (yo2 (i - 1))) (show Int32.toInt x103 = ((i - 1 : Nat) : Int) by have := hx103; omega) hE102_b4 hE102_b5 (fun j g0 g1 => ((oE102 j g1).trans ((oE100 j g0).trans (hfr86 j g0 g1)))) (by omega) (by omega) (fun q hq => ⟨(upd_ne (by omega)).trans (hq89 q (by omega)).1, (upd_ne (by omega)).trans (hq89 q (by omega)).2⟩) (fun q h1 h2 => by by_cases e : q = i; (rw [e, upd_same, upd_same]; exact hq89 (i - 1) (by omega)); (rw [upd_ne e, upd_ne e]; exact hq90 q (by omega) h2)) (by omega)
                    refine v_sub (lv' := [(0, .ref (ad b)), (1, .int y), (2, .int y2), (3, .int y3), (4, .int (rw1 (100 * r1 + Y))), (5, .int y17), (7, .int y2)]) [0, 1, 2, 3, 4, 5, 7] rfl ?_
                    exact LP83 100000 c y2 E18 yw1 yo1 (show Int32.toInt y2 = ((c : Nat) : Int) by have := hy2; omega) hE18_b4 hE18_b5 (fun j _ _ => rfl) (by omega) (by omega) (fun q _ => ⟨rfl, rfl⟩) (fun q h1 h2 => absurd h2 (by omega)) (by omega)
                  · refine v_aload_n C 0 dX6_sortYear_68 rfl rfl ?_
                    refine v_getr C b dX6_sortYear_69 fX6_21 (by omega) hE18_b rfl rfl ?_
                    refine v_iload C 5 dX6_sortYear_72 rfl ?_
                    refine v_ald (v := yw1 a) C (b + 4) dX6_sortYear_74 (by omega) hE18_b4 (ti_in hy17 (by omega) (by omega)) (by rw [ti_cl hy17, show Int.toNat (a : Int) = a by omega]) ?_
                    refine v_iload C 4 dX6_sortYear_75 rfl ?_
                    refine b_icmp_ne C 84 dX6_sortYear_77 (by decide) (rfl : Int32.toInt (yw1 a) = _) (rfl : Int32.toInt (rw1 (100 * r1 + Y)) = _) (fun c104 => ?_) (fun c104 => ?_)
                    · have hns105 : a < c → ¬ (yw1 a).toInt = (rw1 (100 * r1 + Y)).toInt := by intro _; omega
                      refine v_iconst (v := 0) C dX6_sortYear_84 (by decide) ?_
                      refine v_istore (lv' := [(0, .ref (ad b)), (1, .int y), (2, .int y2), (3, .int y3), (4, .int (rw1 (100 * r1 + Y))), (5, .int y17), (6, .int 0)]) C [1, 2, 3, 4, 5, 6, 0] dX6_sortYear_85 (by decide) rfl ?_
                      refine v_iload C 6 dX6_sortYear_87 rfl ?_
                      refine b_if_ne C 143 dX6_sortYear_89 (by decide) (show (0 : Int32).toInt = 0 by decide) (fun c106 => absurd c106 (by decide)) (fun c106 => ?_)
                      refine v_iload_n C 2 dX6_sortYear_92 rfl rfl ?_
                      refine v_istore (lv' := [(0, .ref (ad b)), (1, .int y), (2, .int y2), (3, .int y3), (4, .int (rw1 (100 * r1 + Y))), (5, .int y17), (6, .int 0), (7, .int y2)]) C [1, 2, 3, 4, 5, 6, 7, 0] dX6_sortYear_93 (by decide) rfl ?_
                      have LP107 : ∀ (t : Nat) (i : Nat) (y108 : Int32) (E109 : Nat → va_E) (yw2 : Nat → Int32) (yo2 : Nat → Int32), (y108.toInt = (i : Int)) → (E109 (b + 4) = aI G 8 yw2) → (E109 (b + 5) = aI G 8 yo2) → (∀ j, j ≠ (b + 4) → j ≠ (b + 5) → E109 j = E18 j) → (a ≤ i) → (i ≤ c) → (∀ q, q ≤ i → yw2 q = yw1 q ∧ yo2 q = yo1 q) → (∀ q, i < q → q ≤ c → yw2 q = yw1 (q - 1) ∧ yo2 q = yo1 (q - 1)) → (i : Int) < (t : Int) → V X G A 8 (QI X G A (n) ad (fun r E' => ∃ (c : Nat) (yw1 yo1 : Nat → Int32), r.toInt = (c : Int) ∧ c ≤ rt ∧ E' (b + 4) = aI G 8 yw1 ∧ E' (b + 5) = aI G 8 yo1 ∧ AR c yw1 yo1 (ylL (fun r y => (rw1 (100 * r + y)).toInt) (fun r => (ro r).toInt) Y rt) ∧ ∀ j, j ≠ b + 4 → j ≠ b + 5 → E' j = E j)) (n) ad 0 0 E109 95 [(0, .ref (ad b)), (1, .int y), (2, .int y2), (3, .int y3), (4, .int (rw1 (100 * r1 + Y))), (5, .int y17), (7, .int y108)] [] := by
                        intro t115
                        induction t115 with
                        | zero => intro i y108 E109 yw2 yo2 hy108 hE109_b4 hE109_b5 hfr110 hq111 hq112 hq113 hq114 hm117; exfalso; omega
                        | succ t115 ih116 =>
                          intro i y108 E109 yw2 yo2 hy108 hE109_b4 hE109_b5 hfr110 hq111 hq112 hq113 hq114 hm117
                          have hE109_b := (hfr110 b (by omega) (by omega)).trans hE18_b
                          have hE109_b2 := (hfr110 (b + 2) (by omega) (by omega)).trans hE18_b2
                          have hE109_b3 := (hfr110 (b + 3) (by omega) (by omega)).trans hE18_b3
                          refine v_iload C 6 dX6_sortYear_95 rfl ?_
                          refine v_iload C 5 dX6_sortYear_97 rfl ?_
                          refine b_icmp_le C 140 dX6_sortYear_99 (by decide) hy108 hy17 (fun c118 => ?_) (fun c118 => ?_)
                          · obtain ⟨x119, ex119⟩ : ∃ y : Int32, y = y2 + 1 := ⟨_, rfl⟩
                            have hx119 : x119.toInt = ((c : Int) + 1) := by rw [ex119]; exact ti_add hy2 (show (1 : Int32).toInt = 1 by decide) (by omega) (by omega)
                            refine v_iinc (v := x119) (lv' := [(0, .ref (ad b)), (1, .int y), (2, .int x119), (3, .int y3), (4, .int (rw1 (100 * r1 + Y))), (5, .int y17), (7, .int y108)]) C 2 [1, 2, 0, 3, 4, 5, 6] dX6_sortYear_140 rfl (ex119.symm) (by decide) rfl ?_
                            refine v_aload_n C 0 dX6_sortYear_143 rfl rfl ?_
                            refine v_getr C b dX6_sortYear_144 fX6_21 (by omega) hE109_b rfl rfl ?_
                            refine v_iload C 5 dX6_sortYear_147 rfl ?_
                            refine v_iload C 4 dX6_sortYear_149 rfl ?_
                            refine v_ast C (b + 4) dX6_sortYear_151 (by omega) hE109_b4 (ti_in hy17 (by omega) (by omega)) (fun E120 hE120_b4 oE120 => ?_)
                            rw [ti_cl hy17, show Int.toNat (a : Int) = a by omega] at hE120_b4
                            have hE120_b := (oE120 b (by omega)).trans hE109_b
                            have hE120_b2 := (oE120 (b + 2) (by omega)).trans hE109_b2
                            have hE120_b3 := (oE120 (b + 3) (by omega)).trans hE109_b3
                            have hE120_b5 := (oE120 (b + 5) (by omega)).trans hE109_b5
                            refine v_aload_n C 0 dX6_sortYear_152 rfl rfl ?_
                            refine v_getr C b dX6_sortYear_153 fX6_24 (by omega) hE120_b rfl rfl ?_
                            refine v_iload C 5 dX6_sortYear_156 rfl ?_
                            refine v_aload_n C 0 dX6_sortYear_158 rfl rfl ?_
                            refine v_getr C b dX6_sortYear_159 fX6_15 (by omega) hE120_b rfl rfl ?_
                            refine v_iload_n C 3 dX6_sortYear_162 rfl rfl ?_
                            refine v_ald (v := ro r1) C (b + 2) dX6_sortYear_163 (by omega) hE120_b2 (ti_in hy3 (by omega) (by omega)) (by rw [ti_cl hy3, show Int.toNat (r1 : Int) = r1 by omega]) ?_
                            refine v_ast C (b + 5) dX6_sortYear_164 (by omega) hE120_b5 (ti_in hy17 (by omega) (by omega)) (fun E121 hE121_b5 oE121 => ?_)
                            rw [ti_cl hy17, show Int.toNat (a : Int) = a by omega] at hE121_b5
                            have hE121_b := (oE121 b (by omega)).trans hE120_b
                            have hE121_b2 := (oE121 (b + 2) (by omega)).trans hE120_b2
                            have hE121_b3 := (oE121 (b + 3) (by omega)).trans hE120_b3
                            have hE121_b4 := (oE121 (b + 4) (by omega)).trans hE120_b4
                            obtain ⟨x122, ex122⟩ : ∃ y : Int32, y = y3 + 1 := ⟨_, rfl⟩
                            have hx122 : x122.toInt = ((r1 : Int) + 1) := by rw [ex122]; exact ti_add hy3 (show (1 : Int32).toInt = 1 by decide) (by omega) (by omega)
                            refine v_iinc (v := x122) (lv' := [(0, .ref (ad b)), (1, .int y), (2, .int x119), (3, .int x122), (4, .int (rw1 (100 * r1 + Y))), (5, .int y17), (7, .int y108)]) C 3 [1, 2, 3, 0, 4, 5, 6] dX6_sortYear_165 rfl (ex122.symm) (by decide) rfl ?_
                            refine v_goto C 4 dX6_sortYear_168 (by decide) ?_
                            refine v_sub (lv' := [(0, .ref (ad b)), (1, .int y), (2, .int x119), (3, .int x122)]) [0, 1, 2, 3] rfl ?_
                            exact ih10 (c + 1) x119 (r1 + 1) x122 E121 (upd yw2 a (rw1 (100 * r1 + Y))) (upd yo2 a (ro r1)) (show Int32.toInt x119 = ((c + 1 : Nat) : Int) by have := hx119; omega) (show Int32.toInt x122 = ((r1 + 1 : Nat) : Int) by have := hx122; omega) hE121_b4 hE121_b5 (fun j g0 g1 => ((oE121 j g1).trans ((oE120 j g0).trans ((hfr110 j g0 g1).trans ((hfr19 j ).trans (hfr5 j g0 g1)))))) (by omega) (by omega) (by rw [yl_s (by show ¬ (rw1 (100 * r1 + Y)).toInt = -1; omega)]; exact AR_new hq8 (k := a) (by omega) (AR_low hq8 (yl_srt r1) (by omega) (by first | (left; omega) | (right; omega))) (fun hk => by have q := hq21 a (Nat.le_refl a) hk; have := hns105 hk; omega) (fun i hi => ⟨(upd_ne (by omega)).trans (hq113 i (by omega)).1, (upd_ne (by omega)).trans (hq113 i (by omega)).2⟩) ⟨by rw [upd_same], by rw [upd_same]⟩ (fun i h1 h2 => ⟨(upd_ne (by omega)).trans (hq114 i (by omega) h2).1, (upd_ne (by omega)).trans (hq114 i (by omega) h2).2⟩)) (by omega)
                          · refine v_aload_n C 0 dX6_sortYear_102 rfl rfl ?_
                            refine v_getr C b dX6_sortYear_103 fX6_21 (by omega) hE109_b rfl rfl ?_
                            refine v_iload C 6 dX6_sortYear_106 rfl ?_
                            refine v_aload_n C 0 dX6_sortYear_108 rfl rfl ?_
                            refine v_getr C b dX6_sortYear_109 fX6_21 (by omega) hE109_b rfl rfl ?_
                            refine v_iload C 6 dX6_sortYear_112 rfl ?_
                            refine v_iconst (v := 1) C dX6_sortYear_114 (by decide) ?_
                            refine v_isub C dX6_sortYear_115 ?_
                            refine v_top (fun x123 ex123 => ?_)
                            have hx123 : x123.toInt = ((i : Int) - 1) := by rw [ex123]; exact ti_sub hy108 (show (1 : Int32).toInt = 1 by decide) (by omega) (by omega)
                            refine v_ald (v := yw2 (i - 1)) C (b + 4) dX6_sortYear_116 (by omega) hE109_b4 (ti_in hx123 (by omega) (by omega)) (by rw [ti_cl hx123, show Int.toNat ((i : Int) - 1) = i - 1 by omega]) ?_
                            refine v_ast C (b + 4) dX6_sortYear_117 (by omega) hE109_b4 (ti_in hy108 (by omega) (by omega)) (fun E124 hE124_b4 oE124 => ?_)
                            rw [ti_cl hy108, show Int.toNat (i : Int) = i by omega] at hE124_b4
                            have hE124_b := (oE124 b (by omega)).trans hE109_b
                            have hE124_b2 := (oE124 (b + 2) (by omega)).trans hE109_b2
                            have hE124_b3 := (oE124 (b + 3) (by omega)).trans hE109_b3
                            have hE124_b5 := (oE124 (b + 5) (by omega)).trans hE109_b5
                            refine v_aload_n C 0 dX6_sortYear_118 rfl rfl ?_
                            refine v_getr C b dX6_sortYear_119 fX6_24 (by omega) hE124_b rfl rfl ?_
                            refine v_iload C 6 dX6_sortYear_122 rfl ?_
                            refine v_aload_n C 0 dX6_sortYear_124 rfl rfl ?_
                            refine v_getr C b dX6_sortYear_125 fX6_24 (by omega) hE124_b rfl rfl ?_
                            refine v_iload C 6 dX6_sortYear_128 rfl ?_
                            refine v_iconst (v := 1) C dX6_sortYear_130 (by decide) ?_
                            refine v_isub C dX6_sortYear_131 ?_
                            refine v_top (fun x125 ex125 => ?_)
                            have hx125 : x125.toInt = ((i : Int) - 1) := by rw [ex125]; exact ti_sub hy108 (show (1 : Int32).toInt = 1 by decide) (by omega) (by omega)
                            refine v_ald (v := yo2 (i - 1)) C (b + 5) dX6_sortYear_132 (by omega) hE124_b5 (ti_in hx125 (by omega) (by omega)) (by rw [ti_cl hx125, show Int.toNat ((i : Int) - 1) = i - 1 by omega]) ?_
                            refine v_ast C (b + 5) dX6_sortYear_133 (by omega) hE124_b5 (ti_in hy108 (by omega) (by omega)) (fun E126 hE126_b5 oE126 => ?_)
                            rw [ti_cl hy108, show Int.toNat (i : Int) = i by omega] at hE126_b5
                            have hE126_b := (oE126 b (by omega)).trans hE124_b
                            have hE126_b2 := (oE126 (b + 2) (by omega)).trans hE124_b2
                            have hE126_b3 := (oE126 (b + 3) (by omega)).trans hE124_b3
                            have hE126_b4 := (oE126 (b + 4) (by omega)).trans hE124_b4
                            obtain ⟨x127, ex127⟩ : ∃ y : Int32, y = y108 + (-1) := ⟨_, rfl⟩
                            have hx127 : x127.toInt = ((i : Int) + (-1)) := by rw [ex127]; exact ti_add hy108 (show ((-1) : Int32).toInt = (-1) by decide) (by omega) (by omega)
                            refine v_iinc (v := x127) (lv' := [(0, .ref (ad b)), (1, .int y), (2, .int y2), (3, .int y3), (4, .int (rw1 (100 * r1 + Y))), (5, .int y17), (7, .int x127)]) C 6 [1, 2, 3, 4, 5, 6, 0] dX6_sortYear_134 rfl (ex127.symm) (by decide) rfl ?_
                            refine v_goto C 95 dX6_sortYear_137 (by decide) ?_
                            exact ih116 (i - 1) x127 E126 (upd yw2 i (yw2 (i - 1))) (upd yo2 i (yo2 (i - 1))) (show Int32.toInt x127 = ((i - 1 : Nat) : Int) by have := hx127; omega) hE126_b4 hE126_b5 (fun j g0 g1 => ((oE126 j g1).trans ((oE124 j g0).trans (hfr110 j g0 g1)))) (by omega) (by omega) (fun q hq => ⟨(upd_ne (by omega)).trans (hq113 q (by omega)).1, (upd_ne (by omega)).trans (hq113 q (by omega)).2⟩) (fun q h1 h2 => by by_cases e : q = i; (rw [e, upd_same, upd_same]; exact hq113 (i - 1) (by omega)); (rw [upd_ne e, upd_ne e]; exact hq114 q (by omega) h2)) (by omega)
                      refine v_sub (lv' := [(0, .ref (ad b)), (1, .int y), (2, .int y2), (3, .int y3), (4, .int (rw1 (100 * r1 + Y))), (5, .int y17), (7, .int y2)]) [0, 1, 2, 3, 4, 5, 7] rfl ?_
                      exact LP107 100000 c y2 E18 yw1 yo1 (show Int32.toInt y2 = ((c : Nat) : Int) by have := hy2; omega) hE18_b4 hE18_b5 (fun j _ _ => rfl) (by omega) (by omega) (fun q _ => ⟨rfl, rfl⟩) (fun q h1 h2 => absurd h2 (by omega)) (by omega)
                    · refine v_iconst (v := 1) C dX6_sortYear_80 (by decide) ?_
                      refine v_goto C 85 dX6_sortYear_81 (by decide) ?_
                      refine v_istore (lv' := [(0, .ref (ad b)), (1, .int y), (2, .int y2), (3, .int y3), (4, .int (rw1 (100 * r1 + Y))), (5, .int y17), (6, .int 1)]) C [1, 2, 3, 4, 5, 6, 0] dX6_sortYear_85 (by decide) rfl ?_
                      refine v_iload C 6 dX6_sortYear_87 rfl ?_
                      refine b_if_ne C 143 dX6_sortYear_89 (by decide) (show (1 : Int32).toInt = 1 by decide) (fun c128 => ?_) (fun c128 => absurd c128 (by decide))
                      refine v_aload_n C 0 dX6_sortYear_143 rfl rfl ?_
                      refine v_getr C b dX6_sortYear_144 fX6_21 (by omega) hE18_b rfl rfl ?_
                      refine v_iload C 5 dX6_sortYear_147 rfl ?_
                      refine v_iload C 4 dX6_sortYear_149 rfl ?_
                      refine v_ast C (b + 4) dX6_sortYear_151 (by omega) hE18_b4 (ti_in hy17 (by omega) (by omega)) (fun E129 hE129_b4 oE129 => ?_)
                      rw [ti_cl hy17, show Int.toNat (a : Int) = a by omega] at hE129_b4
                      have hE129_b := (oE129 b (by omega)).trans hE18_b
                      have hE129_b2 := (oE129 (b + 2) (by omega)).trans hE18_b2
                      have hE129_b3 := (oE129 (b + 3) (by omega)).trans hE18_b3
                      have hE129_b5 := (oE129 (b + 5) (by omega)).trans hE18_b5
                      refine v_aload_n C 0 dX6_sortYear_152 rfl rfl ?_
                      refine v_getr C b dX6_sortYear_153 fX6_24 (by omega) hE129_b rfl rfl ?_
                      refine v_iload C 5 dX6_sortYear_156 rfl ?_
                      refine v_aload_n C 0 dX6_sortYear_158 rfl rfl ?_
                      refine v_getr C b dX6_sortYear_159 fX6_15 (by omega) hE129_b rfl rfl ?_
                      refine v_iload_n C 3 dX6_sortYear_162 rfl rfl ?_
                      refine v_ald (v := ro r1) C (b + 2) dX6_sortYear_163 (by omega) hE129_b2 (ti_in hy3 (by omega) (by omega)) (by rw [ti_cl hy3, show Int.toNat (r1 : Int) = r1 by omega]) ?_
                      refine v_ast C (b + 5) dX6_sortYear_164 (by omega) hE129_b5 (ti_in hy17 (by omega) (by omega)) (fun E130 hE130_b5 oE130 => ?_)
                      rw [ti_cl hy17, show Int.toNat (a : Int) = a by omega] at hE130_b5
                      have hE130_b := (oE130 b (by omega)).trans hE129_b
                      have hE130_b2 := (oE130 (b + 2) (by omega)).trans hE129_b2
                      have hE130_b3 := (oE130 (b + 3) (by omega)).trans hE129_b3
                      have hE130_b4 := (oE130 (b + 4) (by omega)).trans hE129_b4
                      obtain ⟨x131, ex131⟩ : ∃ y : Int32, y = y3 + 1 := ⟨_, rfl⟩
                      have hx131 : x131.toInt = ((r1 : Int) + 1) := by rw [ex131]; exact ti_add hy3 (show (1 : Int32).toInt = 1 by decide) (by omega) (by omega)
                      refine v_iinc (v := x131) (lv' := [(0, .ref (ad b)), (1, .int y), (2, .int y2), (3, .int x131), (4, .int (rw1 (100 * r1 + Y))), (5, .int y17), (6, .int 1)]) C 3 [1, 2, 3, 0, 4, 5, 6] dX6_sortYear_165 rfl (ex131.symm) (by decide) rfl ?_
                      refine v_goto C 4 dX6_sortYear_168 (by decide) ?_
                      refine v_sub (lv' := [(0, .ref (ad b)), (1, .int y), (2, .int y2), (3, .int x131)]) [0, 1, 2, 3] rfl ?_
                      exact ih10 c y2 (r1 + 1) x131 E130 (upd yw1 a (rw1 (100 * r1 + Y))) (upd yo1 a (ro r1)) (show Int32.toInt y2 = ((c : Nat) : Int) by have := hy2; omega) (show Int32.toInt x131 = ((r1 + 1 : Nat) : Int) by have := hx131; omega) hE130_b4 hE130_b5 (fun j g0 g1 => ((oE130 j g1).trans ((oE129 j g0).trans ((hfr19 j ).trans (hfr5 j g0 g1))))) (by omega) (by omega) (by rw [yl_s (by show ¬ (rw1 (100 * r1 + Y)).toInt = -1; omega)]; exact AR_same hq8 (k := a) (by omega) (AR_low hq8 (yl_srt r1) (by omega) (by first | (left; omega) | (right; omega))) (by omega) (fun i _ hi => ⟨upd_ne hi, upd_ne hi⟩) ⟨by rw [upd_same], by rw [upd_same]⟩) (by omega)
                · obtain ⟨x132, ex132⟩ : ∃ y : Int32, y = y17 + (-1) := ⟨_, rfl⟩
                  have hx132 : x132.toInt = ((a : Int) + (-1)) := by rw [ex132]; exact ti_add hy17 (show ((-1) : Int32).toInt = (-1) by decide) (by omega) (by omega)
                  refine v_iinc (v := x132) (lv' := [(0, .ref (ad b)), (1, .int y), (2, .int y2), (3, .int y3), (4, .int (rw1 (100 * r1 + Y))), (5, .int x132)]) C 5 [1, 2, 3, 4, 5, 0] dX6_sortYear_56 rfl (ex132.symm) (by decide) rfl ?_
                  refine v_goto C 37 dX6_sortYear_59 (by decide) ?_
                  exact ih23 (a - 1) x132 E18 (show Int32.toInt x132 = ((a - 1 : Nat) : Int) by have := hx132; omega) (fun j => (hfr19 j )) (by omega) (fun i h1 h2 => by by_cases q : i = a - 1; (rw [q]; omega); (exact hq21 i (by omega) h2)) (by omega)
          exact LP16 100000 c y2 E4 (show Int32.toInt y2 = ((c : Nat) : Int) by have := hy2; omega) (fun j => rfl) (by omega) (fun i h1 h2 => absurd h2 (by omega)) (by omega)
        · refine v_goto C 165 dX6_sortYear_31 (by decide) ?_
          obtain ⟨x133, ex133⟩ : ∃ y : Int32, y = y3 + 1 := ⟨_, rfl⟩
          have hx133 : x133.toInt = ((r1 : Int) + 1) := by rw [ex133]; exact ti_add hy3 (show (1 : Int32).toInt = 1 by decide) (by omega) (by omega)
          refine v_iinc (v := x133) (lv' := [(0, .ref (ad b)), (1, .int y), (2, .int y2), (3, .int x133), (4, .int (rw1 (100 * r1 + Y)))]) C 3 [1, 2, 3, 0, 4] dX6_sortYear_165 rfl (ex133.symm) (by decide) rfl ?_
          refine v_goto C 4 dX6_sortYear_168 (by decide) ?_
          refine v_sub (lv' := [(0, .ref (ad b)), (1, .int y), (2, .int y2), (3, .int x133)]) [0, 1, 2, 3] rfl ?_
          exact ih10 c y2 (r1 + 1) x133 E4 yw1 yo1 (show Int32.toInt y2 = ((c : Nat) : Int) by have := hy2; omega) (show Int32.toInt x133 = ((r1 + 1 : Nat) : Int) by have := hx133; omega) hE4_b4 hE4_b5 (fun j g0 g1 => (hfr5 j g0 g1)) (by omega) (by omega) (by rw [yl_k (by show (rw1 (100 * r1 + Y)).toInt = -1; omega)]; exact hq8) (by omega)
  exact LP1 100000 0 0 0 0 E yw yo (show Int32.toInt 0 = ((0 : Nat) : Int) by have := (show (0 : Int32).toInt = 0 by decide); omega) (show Int32.toInt 0 = ((0 : Nat) : Int) by have := (show (0 : Int32).toInt = 0 by decide); omega) h4 h5 (fun j _ _ => rfl) (by omega) (by omega) (AR_0) (by omega)

