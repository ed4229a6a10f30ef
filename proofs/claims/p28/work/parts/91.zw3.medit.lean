set_option maxRecDepth 20000 in
theorem f_copyFrom (l : Launch) (G : Gl) (n : Nat) (ad : Nat → Nat) (E : Nat → va_E) (b c : Nat) (hb : b + 6 ≤ n) (hc : c + 6 ≤ n) (hbc : b + 6 ≤ c ∨ c + 6 ≤ b) {sb : Int32} (hWb : PgW G ad b E sb) {sz : Int32} {fo fx fy : Nat → Int32} (hWc : PgX G ad c E sz fo fx fy) (hs1 : 0 ≤ sz.toInt) (hs2 : sz.toInt ≤ 10) : CtV l G yX5_copyFrom cX5_copyFrom 3 3 68 (n) ad E [.ref (ad b), .ref (ad c)] (fun E' => PgX G ad b E' sz fo fx fy ∧ Fr6 b E E') := by
  refine CtV.of (by decide) (Nat.le_of_ble_eq_true rfl) (fun X A C => ?_)
  refine v_sub (lv' := [(0, .ref (ad b)), (1, .ref (ad c))]) [0, 1] rfl ?_
  obtain ⟨ip, po, px, py, tp, kd, hEb, -, -, -, hEb1, hEb2, hEb3, hEb4, hEb5⟩ := id hWb
  obtain ⟨iq, qo, qx, qy, tq, kq, hEc, hsc, -, -, hEc1, hEc2, hEc3, -, -, hre, hro, -⟩ := id hWc
  obtain ⟨N, hN⟩ : ∃ q : Nat, sz.toInt = (q : Int) := ⟨sz.toInt.toNat, by omega⟩
  have hNt : sz.toInt.toNat = N := by omega
  rw [hNt] at hre hro
  have hqs6 : (iq 6).toInt = (N : Int) := by rw [hsc]; exact hN
  refine v_aload_n C 0 dX5_copyFrom_0 rfl rfl ?_
  refine v_aload_n C 1 dX5_copyFrom_1 rfl rfl ?_
  refine v_geti (v := iq 6) C c dX5_copyFrom_2 fX5_27 (by omega) hEc rfl rfl ?_
  refine v_puti C b dX5_copyFrom_5 fX5_27 (by omega) hEb rfl rfl rfl rfl (fun E1 hE1_b oE1 => ?_)
  have hE1_b1 := (oE1 (b + 1) (by omega)).trans hEb1
  have hE1_b2 := (oE1 (b + 2) (by omega)).trans hEb2
  have hE1_b3 := (oE1 (b + 3) (by omega)).trans hEb3
  have hE1_b4 := (oE1 (b + 4) (by omega)).trans hEb4
  have hE1_b5 := (oE1 (b + 5) (by omega)).trans hEb5
  have hE1_c := (oE1 c (by omega)).trans hEc
  have hE1_c1 := (oE1 (c + 1) (by omega)).trans hEc1
  have hE1_c2 := (oE1 (c + 2) (by omega)).trans hEc2
  have hE1_c3 := (oE1 (c + 3) (by omega)).trans hEc3
  refine v_iconst (v := 0) C dX5_copyFrom_8 (by decide) ?_
  refine v_istore_n (lv' := [(0, .ref (ad b)), (1, .ref (ad c)), (2, .int 0)]) C [1, 2, 0] dX5_copyFrom_9 rfl (by decide) rfl ?_
  have LP2 : ∀ (t : Nat) (i1 : Nat) (y3 : Int32) (E4 : Nat → va_E) (po1 : Nat → Int32) (px1 : Nat → Int32) (py1 : Nat → Int32), (y3.toInt = (i1 : Int)) → (E4 (b + 1) = aI G 10 po1) → (E4 (b + 2) = aI G 10 px1) → (E4 (b + 3) = aI G 10 py1) → (∀ j, j ≠ (b + 1) → j ≠ (b + 2) → j ≠ (b + 3) → E4 j = E1 j) → (i1 ≤ N) → (∀ j, j < i1 → po1 j = fo j ∧ px1 j = fx j ∧ py1 j = fy j) → (N : Int) - (i1 : Int) < (t : Int) → V X G A 3 (QV X G A (n) ad (fun E' => PgX G ad b E' sz fo fx fy ∧ Fr6 b E E')) (n) ad 0 0 E4 10 [(0, .ref (ad b)), (1, .ref (ad c)), (2, .int y3)] [] := by
    intro t7
    induction t7 with
    | zero => intro i1 y3 E4 po1 px1 py1 hy3 hE4_b1 hE4_b2 hE4_b3 hfr5 hq6 hag hm9; exfalso; omega
    | succ t7 ih8 =>
      intro i1 y3 E4 po1 px1 py1 hy3 hE4_b1 hE4_b2 hE4_b3 hfr5 hq6 hag hm9
      have hE4_b := (hfr5 b (by omega) (by omega) (by omega)).trans hE1_b
      have hE4_b4 := (hfr5 (b + 4) (by omega) (by omega) (by omega)).trans hE1_b4
      have hE4_b5 := (hfr5 (b + 5) (by omega) (by omega) (by omega)).trans hE1_b5
      have hE4_c := (hfr5 c (by omega) (by omega) (by omega)).trans hE1_c
      have hE4_c1 := (hfr5 (c + 1) (by omega) (by omega) (by omega)).trans hE1_c1
      have hE4_c2 := (hfr5 (c + 2) (by omega) (by omega) (by omega)).trans hE1_c2
      have hE4_c3 := (hfr5 (c + 3) (by omega) (by omega) (by omega)).trans hE1_c3
      refine v_iload_n C 2 dX5_copyFrom_10 rfl rfl ?_
      refine v_aload_n C 0 dX5_copyFrom_11 rfl rfl ?_
      refine v_geti (v := iq 6) C b dX5_copyFrom_12 fX5_27 (by omega) hE4_b rfl rfl ?_
      refine b_icmp_ge C 60 dX5_copyFrom_15 (by decide) hy3 hqs6 (fun c10 => ?_) (fun c10 => ?_)
      · refine v_aload_n C 0 dX5_copyFrom_60 rfl rfl ?_
        refine v_cVv C dX5_copyFrom_61 lX5_31 mX5_fit b (by omega) hE4_b (by decide) rfl (f_fit l G n ad _ b hb hE4_b hE4_b5 hE4_b1 hE4_b2 hE4_b3 hE4_b4 (show 0 ≤ Int32.toInt (iq 6) by omega) (show Int32.toInt (iq 6) ≤ 10 by omega) (fun j hj => by have hj2 : (j : Int) < (iq 6).toInt := hj; rw [(hag j (by omega)).1]; exact hro j (by omega))) ⟨by decide, by decide⟩ rfl (Nat.le_of_ble_eq_true rfl) ⟨Nat.zero_le _, Nat.zero_le _⟩ (fun E11 hq12 => ?_)
        obtain ⟨ip9, tp9, kd9, hB9, h69, hl9, hu9, h49, h59, hF9, hO9⟩ := hq12
        have hq9 : FITR po1 N ip9 tp9 := by rw [← hNt, ← hsc]; exact hF9
        exact v_vret C dX5_copyFrom_64 rfl ⟨⟨ip9, po1, px1, py1, tp9, kd9, hB9, h69.trans hsc, hl9, hu9, (hO9 _ (by omega) (by omega) (by omega)).trans hE4_b1, (hO9 _ (by omega) (by omega) (by omega)).trans hE4_b2, (hO9 _ (by omega) (by omega) (by omega)).trans hE4_b3, h49, h59, (fun j hj => hag j (by omega)), (fun j hj => hro j (by omega)), (by rw [hNt]; exact FITR.congr (fun j hj => (hag j (by omega)).1) hq9)⟩, fun j hj => ((hO9 j (by omega) (by omega) (by omega)).trans ((hfr5 j (by omega) (by omega) (by omega)).trans (oE1 j (by omega))))⟩
      · refine v_aload_n C 0 dX5_copyFrom_18 rfl rfl ?_
        refine v_getr C b dX5_copyFrom_19 fX5_9 (by omega) hE4_b rfl rfl ?_
        refine v_iload_n C 2 dX5_copyFrom_22 rfl rfl ?_
        refine v_aload_n C 1 dX5_copyFrom_23 rfl rfl ?_
        refine v_getr C c dX5_copyFrom_24 fX5_9 (by omega) hE4_c rfl rfl ?_
        refine v_iload_n C 2 dX5_copyFrom_27 rfl rfl ?_
        refine v_ald (v := qo i1) C (c + 1) dX5_copyFrom_28 (by omega) hE4_c1 (ti_in hy3 (by omega) (by omega)) (by rw [ti_cl hy3, show Int.toNat (i1 : Int) = i1 by omega]) ?_
        refine v_ast C (b + 1) dX5_copyFrom_29 (by omega) hE4_b1 (ti_in hy3 (by omega) (by omega)) (fun E13 hE13_b1 oE13 => ?_)
        rw [ti_cl hy3, show Int.toNat (i1 : Int) = i1 by omega] at hE13_b1
        have hE13_b := (oE13 b (by omega)).trans hE4_b
        have hE13_b2 := (oE13 (b + 2) (by omega)).trans hE4_b2
        have hE13_b3 := (oE13 (b + 3) (by omega)).trans hE4_b3
        have hE13_b4 := (oE13 (b + 4) (by omega)).trans hE4_b4
        have hE13_b5 := (oE13 (b + 5) (by omega)).trans hE4_b5
        have hE13_c := (oE13 c (by omega)).trans hE4_c
        have hE13_c1 := (oE13 (c + 1) (by omega)).trans hE4_c1
        have hE13_c2 := (oE13 (c + 2) (by omega)).trans hE4_c2
        have hE13_c3 := (oE13 (c + 3) (by omega)).trans hE4_c3
        refine v_aload_n C 0 dX5_copyFrom_30 rfl rfl ?_
        refine v_getr C b dX5_copyFrom_31 fX5_15 (by omega) hE13_b rfl rfl ?_
        refine v_iload_n C 2 dX5_copyFrom_34 rfl rfl ?_
        refine v_aload_n C 1 dX5_copyFrom_35 rfl rfl ?_
        refine v_getr C c dX5_copyFrom_36 fX5_15 (by omega) hE13_c rfl rfl ?_
        refine v_iload_n C 2 dX5_copyFrom_39 rfl rfl ?_
        refine v_ald (v := qx i1) C (c + 2) dX5_copyFrom_40 (by omega) hE13_c2 (ti_in hy3 (by omega) (by omega)) (by rw [ti_cl hy3, show Int.toNat (i1 : Int) = i1 by omega]) ?_
        refine v_ast C (b + 2) dX5_copyFrom_41 (by omega) hE13_b2 (ti_in hy3 (by omega) (by omega)) (fun E14 hE14_b2 oE14 => ?_)
        rw [ti_cl hy3, show Int.toNat (i1 : Int) = i1 by omega] at hE14_b2
        have hE14_b := (oE14 b (by omega)).trans hE13_b
        have hE14_b1 := (oE14 (b + 1) (by omega)).trans hE13_b1
        have hE14_b3 := (oE14 (b + 3) (by omega)).trans hE13_b3
        have hE14_b4 := (oE14 (b + 4) (by omega)).trans hE13_b4
        have hE14_b5 := (oE14 (b + 5) (by omega)).trans hE13_b5
        have hE14_c := (oE14 c (by omega)).trans hE13_c
        have hE14_c1 := (oE14 (c + 1) (by omega)).trans hE13_c1
        have hE14_c2 := (oE14 (c + 2) (by omega)).trans hE13_c2
        have hE14_c3 := (oE14 (c + 3) (by omega)).trans hE13_c3
        refine v_aload_n C 0 dX5_copyFrom_42 rfl rfl ?_
        refine v_getr C b dX5_copyFrom_43 fX5_18 (by omega) hE14_b rfl rfl ?_
        refine v_iload_n C 2 dX5_copyFrom_46 rfl rfl ?_
        refine v_aload_n C 1 dX5_copyFrom_47 rfl rfl ?_
        refine v_getr C c dX5_copyFrom_48 fX5_18 (by omega) hE14_c rfl rfl ?_
        refine v_iload_n C 2 dX5_copyFrom_51 rfl rfl ?_
        refine v_ald (v := qy i1) C (c + 3) dX5_copyFrom_52 (by omega) hE14_c3 (ti_in hy3 (by omega) (by omega)) (by rw [ti_cl hy3, show Int.toNat (i1 : Int) = i1 by omega]) ?_
        refine v_ast C (b + 3) dX5_copyFrom_53 (by omega) hE14_b3 (ti_in hy3 (by omega) (by omega)) (fun E15 hE15_b3 oE15 => ?_)
        rw [ti_cl hy3, show Int.toNat (i1 : Int) = i1 by omega] at hE15_b3
        have hE15_b := (oE15 b (by omega)).trans hE14_b
        have hE15_b1 := (oE15 (b + 1) (by omega)).trans hE14_b1
        have hE15_b2 := (oE15 (b + 2) (by omega)).trans hE14_b2
        have hE15_b4 := (oE15 (b + 4) (by omega)).trans hE14_b4
        have hE15_b5 := (oE15 (b + 5) (by omega)).trans hE14_b5
        have hE15_c := (oE15 c (by omega)).trans hE14_c
        have hE15_c1 := (oE15 (c + 1) (by omega)).trans hE14_c1
        have hE15_c2 := (oE15 (c + 2) (by omega)).trans hE14_c2
        have hE15_c3 := (oE15 (c + 3) (by omega)).trans hE14_c3
        obtain ⟨x16, ex16⟩ : ∃ y : Int32, y = y3 + 1 := ⟨_, rfl⟩
        have hx16 : x16.toInt = ((i1 : Int) + 1) := by rw [ex16]; exact ti_add hy3 (show (1 : Int32).toInt = 1 by decide) (by omega) (by omega)
        refine v_iinc (v := x16) (lv' := [(0, .ref (ad b)), (1, .ref (ad c)), (2, .int x16)]) C 2 [1, 2, 0] dX5_copyFrom_54 rfl (ex16.symm) (by decide) rfl ?_
        refine v_goto C 10 dX5_copyFrom_57 (by decide) ?_
        exact ih8 (i1 + 1) x16 E15 (upd po1 i1 (qo i1)) (upd px1 i1 (qx i1)) (upd py1 i1 (qy i1)) (show Int32.toInt x16 = ((i1 + 1 : Nat) : Int) by have := hx16; omega) hE15_b1 hE15_b2 hE15_b3 (fun j g0 g1 g2 => ((oE15 j g2).trans ((oE14 j g1).trans ((oE13 j g0).trans (hfr5 j g0 g1 g2))))) (by omega) (fun j hj => by by_cases q : j = i1; (subst q; rw [upd_same, upd_same, upd_same]; exact hre j (by omega)); (rw [upd_ne q, upd_ne q, upd_ne q]; exact hag j (by omega))) (by omega)
  exact LP2 100000 0 0 E1 po px py (show Int32.toInt 0 = ((0 : Nat) : Int) by have := (show (0 : Int32).toInt = 0 by decide); omega) hE1_b1 hE1_b2 hE1_b3 (fun j _ _ _ => rfl) (by omega) (fun j hj => absurd hj (by omega)) (by omega)

set_option maxRecDepth 20000 in
theorem g_addEdit (l : Launch) (G : Gl) (n : Nat) (ad : Nat → Nat) (E : Nat → va_E) (hn : 98 ≤ n) {k N i : Nat} {fo fx fy : Nat → Int32} (hk5 : k ≤ 5) (hN10 : N ≤ 10) (hok : okLs k N fo fx fy) (hi : i < N) {c : Nat} (hc : c < anN k (fo i).toInt (fx i).toInt) (hED : EDs G ad k fo fx fy E i c) (a : Int32) (op : Int32) (x : Int32) (y : Int32) (ha : a.toInt = (i : Int)) (ho : op.toInt = anO (fo i).toInt) (hx : x.toInt = anX (fo i).toInt (fx i).toInt c) (hy : y.toInt = anY (fo i).toInt (fy i).toInt c) : CtV l G yX3_addEdit cX3_addEdit 5 0 0 (n) ad E [.ref (ad 51), .int a, .int op, .int x, .int y] (fun E' => EDs G ad k fo fx fy E' i (c + 1) ∧ ∀ j, j ≠ 51 → (j < 64 ∨ 67 < j) → E' j = E j) := by
  refine CtV.of (by decide) (Nat.le_of_ble_eq_true rfl) (fun X A C => ?_)
  refine v_sub (lv' := [(0, .ref (ad 51)), (1, .int a), (2, .int op), (3, .int x), (4, .int y)]) [0, 1, 2, 3, 4] rfl ?_
  obtain ⟨i51, el, eo, ex, ey, h51, hM, h64, h65, h66, h67, hE⟩ := id hED
  have hb5 := bs_in hc hi
  have hb6 := bs_50 (fo := fo) (fx := fx) hk5 N
  have hlb := okLn_b hk5 (an_ok (hok i hi) hc)
  have eo9 : op = Int32.ofInt (anO (fo i).toInt) := ti_ext (ho.trans (ofI (by omega) (by omega)).symm)
  have ex9 : x = Int32.ofInt (anX (fo i).toInt (fx i).toInt c) := ti_ext (hx.trans (ofI (by omega) (by omega)).symm)
  have ey9 : y = Int32.ofInt (anY (fo i).toInt (fy i).toInt c) := ti_ext (hy.trans (ofI (by omega) (by omega)).symm)
  refine v_aload_n C 0 dX3_addEdit_0 rfl rfl ?_
  refine v_geti (v := i51 8) C 51 dX3_addEdit_1 fX3_72 (by omega) h51 rfl rfl ?_
  refine v_bipush (v := 50) C dX3_addEdit_4 (by decide) ?_
  refine b_icmp_ge C 60 dX3_addEdit_6 (by decide) hM (show (50 : Int32).toInt = 50 by decide) (fun c1 => by exfalso; omega) (fun c1 => ?_)
  refine v_aload_n C 0 dX3_addEdit_9 rfl rfl ?_
  refine v_getr C 51 dX3_addEdit_10 fX3_21 (by omega) h51 rfl rfl ?_
  refine v_aload_n C 0 dX3_addEdit_13 rfl rfl ?_
  refine v_geti (v := i51 8) C 51 dX3_addEdit_14 fX3_72 (by omega) h51 rfl rfl ?_
  refine v_iload_n C 1 dX3_addEdit_17 rfl rfl ?_
  refine v_ast C 64 dX3_addEdit_18 (by omega) h64 (ti_in hM (by omega) (by omega)) (fun E2 hE2_64 oE2 => ?_)
  rw [ti_cl hM, show Int.toNat ((bsN k fo fx i + c : Nat) : Int) = bsN k fo fx i + c by omega] at hE2_64
  have hE2_51 := (oE2 51 (by decide)).trans h51
  have hE2_65 := (oE2 65 (by decide)).trans h65
  have hE2_66 := (oE2 66 (by decide)).trans h66
  have hE2_67 := (oE2 67 (by decide)).trans h67
  refine v_aload_n C 0 dX3_addEdit_19 rfl rfl ?_
  refine v_getr C 51 dX3_addEdit_20 fX3_25 (by omega) hE2_51 rfl rfl ?_
  refine v_aload_n C 0 dX3_addEdit_23 rfl rfl ?_
  refine v_geti (v := i51 8) C 51 dX3_addEdit_24 fX3_72 (by omega) hE2_51 rfl rfl ?_
  refine v_iload_n C 2 dX3_addEdit_27 rfl rfl ?_
  refine v_ast C 65 dX3_addEdit_28 (by omega) hE2_65 (ti_in hM (by omega) (by omega)) (fun E3 hE3_65 oE3 => ?_)
  rw [ti_cl hM, show Int.toNat ((bsN k fo fx i + c : Nat) : Int) = bsN k fo fx i + c by omega] at hE3_65
  have hE3_51 := (oE3 51 (by decide)).trans hE2_51
  have hE3_64 := (oE3 64 (by decide)).trans hE2_64
  have hE3_66 := (oE3 66 (by decide)).trans hE2_66
  have hE3_67 := (oE3 67 (by decide)).trans hE2_67
  refine v_aload_n C 0 dX3_addEdit_29 rfl rfl ?_
  refine v_getr C 51 dX3_addEdit_30 fX3_28 (by omega) hE3_51 rfl rfl ?_
  refine v_aload_n C 0 dX3_addEdit_33 rfl rfl ?_
  refine v_geti (v := i51 8) C 51 dX3_addEdit_34 fX3_72 (by omega) hE3_51 rfl rfl ?_
  refine v_iload_n C 3 dX3_addEdit_37 rfl rfl ?_
  refine v_ast C 66 dX3_addEdit_38 (by omega) hE3_66 (ti_in hM (by omega) (by omega)) (fun E4 hE4_66 oE4 => ?_)
  rw [ti_cl hM, show Int.toNat ((bsN k fo fx i + c : Nat) : Int) = bsN k fo fx i + c by omega] at hE4_66
  have hE4_51 := (oE4 51 (by decide)).trans hE3_51
  have hE4_64 := (oE4 64 (by decide)).trans hE3_64
  have hE4_65 := (oE4 65 (by decide)).trans hE3_65
  have hE4_67 := (oE4 67 (by decide)).trans hE3_67
  refine v_aload_n C 0 dX3_addEdit_39 rfl rfl ?_
  refine v_getr C 51 dX3_addEdit_40 fX3_31 (by omega) hE4_51 rfl rfl ?_
  refine v_aload_n C 0 dX3_addEdit_43 rfl rfl ?_
  refine v_geti (v := i51 8) C 51 dX3_addEdit_44 fX3_72 (by omega) hE4_51 rfl rfl ?_
  refine v_iload C 4 dX3_addEdit_47 rfl ?_
  refine v_ast C 67 dX3_addEdit_49 (by omega) hE4_67 (ti_in hM (by omega) (by omega)) (fun E5 hE5_67 oE5 => ?_)
  rw [ti_cl hM, show Int.toNat ((bsN k fo fx i + c : Nat) : Int) = bsN k fo fx i + c by omega] at hE5_67
  have hE5_51 := (oE5 51 (by decide)).trans hE4_51
  have hE5_64 := (oE5 64 (by decide)).trans hE4_64
  have hE5_65 := (oE5 65 (by decide)).trans hE4_65
  have hE5_66 := (oE5 66 (by decide)).trans hE4_66
  refine v_aload_n C 0 dX3_addEdit_50 rfl rfl ?_
  refine v_dup C dX3_addEdit_51 rfl ?_
  refine v_geti (v := i51 8) C 51 dX3_addEdit_52 fX3_72 (by omega) hE5_51 rfl rfl ?_
  refine v_iconst (v := 1) C dX3_addEdit_55 (by decide) ?_
  refine v_iadd C dX3_addEdit_56 ?_
  refine v_top (fun x6 ex6 => ?_)
  have hx6 : x6.toInt = (((bsN k fo fx i + c : Nat) : Int) + 1) := by rw [ex6]; exact ti_add hM (show (1 : Int32).toInt = 1 by decide) (by omega) (by omega)
  refine v_puti C 51 dX3_addEdit_57 fX3_72 (by omega) hE5_51 rfl rfl rfl rfl (fun E7 hE7_51 oE7 => ?_)
  have hE7_64 := (oE7 64 (by decide)).trans hE5_64
  have hE7_65 := (oE7 65 (by decide)).trans hE5_65
  have hE7_66 := (oE7 66 (by decide)).trans hE5_66
  have hE7_67 := (oE7 67 (by decide)).trans hE5_67
  exact v_vret C dX3_addEdit_60 rfl ⟨⟨_, _, _, _, _, hE7_51, (show Int32.toInt x6 = ((bsN k fo fx i + (c + 1) : Nat) : Int) by have := hx6; omega), hE7_64, hE7_65, hE7_66, hE7_67, hE.add ha eo9 ex9 ey9⟩, fun j g1 g2 => ((oE7 j (by omega)).trans ((oE5 j (by omega)).trans ((oE4 j (by omega)).trans ((oE3 j (by omega)).trans (oE2 j (by omega))))))⟩

set_option maxRecDepth 20000 in
theorem g_addZones (l : Launch) (G : Gl) (n : Nat) (ad : Nat → Nat) (E : Nat → va_E) (hn : 98 ≤ n) {k N i : Nat} {fo fx fy : Nat → Int32} (hk5 : k ≤ 5) (hN10 : N ≤ 10) (hok : okLs k N fo fx fy) (hi : i < N) {c0 : Nat} (hED : EDs G ad k fo fx fy E i c0) {iz : Nat → Int32} (h6 : E 6 = ob 7 (rfs ad [7]) iz) (hzk : (iz 1).toInt = (k : Int)) (a : Int32) (op : Int32) (w : Int32) (y : Int32) (ha : a.toInt = (i : Int)) (ho : op.toInt = anO (fo i).toInt) (hw : 0 ≤ w.toInt ∧ w.toInt < (k : Int)) (hZ : ∀ z : Nat, z < k → (z : Int) ≠ w.toInt → c0 + czN w.toInt z < anN k (fo i).toInt (fx i).toInt ∧ anX (fo i).toInt (fx i).toInt (c0 + czN w.toInt z) = (z : Int) ∧ anY (fo i).toInt (fy i).toInt (c0 + czN w.toInt z) = y.toInt) : CtV l G yX3_addZones cX3_addZones 6 1 24 (n) ad E [.ref (ad 51), .int a, .int op, .int w, .int y] (fun E' => EDs G ad k fo fx fy E' i (c0 + czN w.toInt k) ∧ ∀ j, j ≠ 51 → (j < 64 ∨ 67 < j) → E' j = E j) := by
  refine CtV.of (by decide) (Nat.le_of_ble_eq_true rfl) (fun X A C => ?_)
  refine v_sub (lv' := [(0, .ref (ad 51)), (1, .int a), (2, .int op), (3, .int w), (4, .int y)]) [0, 1, 2, 3, 4] rfl ?_
  obtain ⟨i51, el, eo, ex, ey, h51, hM, h64, h65, h66, h67, hE⟩ := id hED
  refine v_iconst (v := 0) C dX3_addZones_0 (by decide) ?_
  refine v_istore (lv' := [(0, .ref (ad 51)), (1, .int a), (2, .int op), (3, .int w), (4, .int y), (5, .int 0)]) C [1, 2, 3, 4, 5, 0] dX3_addZones_1 (by decide) rfl ?_
  have LP1 : ∀ (t : Nat) (z1 : Nat) (y2 : Int32) (E3 : Nat → va_E), (y2.toInt = (z1 : Int)) → (EDs G ad k fo fx fy E3 i (c0 + czN w.toInt z1) ∧ ∀ j, j ≠ 51 → (j < 64 ∨ 67 < j) → E3 j = E j) → (z1 ≤ k) → (k : Int) - (z1 : Int) < (t : Int) → V X G A 6 (QV X G A (n) ad (fun E' => EDs G ad k fo fx fy E' i (c0 + czN w.toInt k) ∧ ∀ j, j ≠ 51 → (j < 64 ∨ 67 < j) → E' j = E j)) (n) ad 0 0 E3 3 [(0, .ref (ad 51)), (1, .int a), (2, .int op), (3, .int w), (4, .int y), (5, .int y2)] [] := by
    intro t6
    induction t6 with
    | zero => intro z1 y2 E3 hy2 hI4 hq5 hm8; exfalso; omega
    | succ t6 ih7 =>
      intro z1 y2 E3 hy2 hI4 hq5 hm8
      obtain ⟨zED, zO⟩ := id hI4
      obtain ⟨i5a, ela, eoa, exa, eya, z51, zM, z64, z65, z66, z67, zE⟩ := id zED
      have z_6 := (zO 6 (by omega) (by omega)).trans h6
      refine v_iload C 5 dX3_addZones_3 rfl ?_
      refine v_aload_n C 0 dX3_addZones_5 rfl rfl ?_
      refine v_getr C 51 dX3_addZones_6 fX3_34 (by omega) z51 rfl rfl ?_
      refine v_geti (v := iz 1) C 6 dX3_addZones_9 fX3_120 (by omega) z_6 rfl rfl ?_
      refine b_icmp_ge C 37 dX3_addZones_12 (by decide) hy2 hzk (fun c9 => ?_) (fun c9 => ?_)
      · exact v_vret C dX3_addZones_37 rfl ⟨(by have e9 : z1 = k := (by omega); rw [e9] at zED; exact zED), zO⟩
      · refine v_iload C 5 dX3_addZones_15 rfl ?_
        refine v_iload_n C 3 dX3_addZones_17 rfl rfl ?_
        refine b_icmp_eq C 31 dX3_addZones_18 (by decide) hy2 (rfl : Int32.toInt w = _) (fun c10 => ?_) (fun c10 => ?_)
        · obtain ⟨x11, ex11⟩ : ∃ y : Int32, y = y2 + 1 := ⟨_, rfl⟩
          have hx11 : x11.toInt = ((z1 : Int) + 1) := by rw [ex11]; exact ti_add hy2 (show (1 : Int32).toInt = 1 by decide) (by omega) (by omega)
          refine v_iinc (v := x11) (lv' := [(0, .ref (ad 51)), (1, .int a), (2, .int op), (3, .int w), (4, .int y), (5, .int x11)]) C 5 [1, 2, 3, 4, 5, 0] dX3_addZones_31 rfl (ex11.symm) (by decide) rfl ?_
          refine v_goto C 3 dX3_addZones_34 (by decide) ?_
          exact ih7 (z1 + 1) x11 E3 (show Int32.toInt x11 = ((z1 + 1 : Nat) : Int) by have := hx11; omega) (⟨(by rw [cz_e (show (z1 : Int) = w.toInt by omega)]; exact zED), zO⟩) (by omega) (by omega)
        · refine v_aload_n C 0 dX3_addZones_21 rfl rfl ?_
          refine v_iload_n C 1 dX3_addZones_22 rfl rfl ?_
          refine v_iload_n C 2 dX3_addZones_23 rfl rfl ?_
          refine v_iload C 5 dX3_addZones_24 rfl ?_
          refine v_iload C 4 dX3_addZones_26 rfl ?_
          refine v_cVv C dX3_addZones_28 lX3_102 mX3_addEdit 51 (by omega) z51 (by decide) rfl (g_addEdit l G n ad _ hn hk5 hN10 hok hi (hZ z1 (by omega) (by omega)).1 zED a op y2 y ha ho (hy2.trans (hZ z1 (by omega) (by omega)).2.1.symm) (hZ z1 (by omega) (by omega)).2.2.symm) ⟨by decide, by decide⟩ rfl (Nat.le_of_ble_eq_true rfl) ⟨Nat.zero_le _, Nat.zero_le _⟩ (fun E12 hq13 => ?_)
          obtain ⟨x14, ex14⟩ : ∃ y : Int32, y = y2 + 1 := ⟨_, rfl⟩
          have hx14 : x14.toInt = ((z1 : Int) + 1) := by rw [ex14]; exact ti_add hy2 (show (1 : Int32).toInt = 1 by decide) (by omega) (by omega)
          refine v_iinc (v := x14) (lv' := [(0, .ref (ad 51)), (1, .int a), (2, .int op), (3, .int w), (4, .int y), (5, .int x14)]) C 5 [1, 2, 3, 4, 5, 0] dX3_addZones_31 rfl (ex14.symm) (by decide) rfl ?_
          refine v_goto C 3 dX3_addZones_34 (by decide) ?_
          exact ih7 (z1 + 1) x14 E12 (show Int32.toInt x14 = ((z1 + 1 : Nat) : Int) by have := hx14; omega) (⟨(by rw [cz_s (show (z1 : Int) ≠ w.toInt by omega) (by omega)]; exact hq13.1), fun j g1 g2 => (hq13.2 j g1 g2).trans (zO j g1 g2)⟩) (by omega) (by omega)
  exact LP1 100000 0 0 E (show Int32.toInt 0 = ((0 : Nat) : Int) by have := (show (0 : Int32).toInt = 0 by decide); omega) (⟨(by rw [show c0 + czN w.toInt 0 = c0 + 0 by unfold czN; rw [if_pos (by omega)]]; exact hED), fun _ _ _ => rfl⟩) (by omega) (by omega)

set_option maxRecDepth 20000 in
theorem g_addEndings (l : Launch) (G : Gl) (n : Nat) (ad : Nat → Nat) (E : Nat → va_E) (hn : 98 ≤ n) {k N i : Nat} {fo fx fy : Nat → Int32} (hk5 : k ≤ 5) (hN10 : N ≤ 10) (hok : okLs k N fo fx fy) (hi : i < N) (hED : EDs G ad k fo fx fy E i 0) (a : Int32) (x : Int32) (w : Int32) (ha : a.toInt = (i : Int)) (h7 : (fo i).toInt = 7) (hx : x.toInt = (fx i).toInt) (hwy : w.toInt = (fy i).toInt) (hw : 0 ≤ (fy i).toInt ∧ (fy i).toInt ≤ 2) : CtV l G yX3_addEndings cX3_addEndings 5 1 24 (n) ad E [.ref (ad 51), .int a, .int x, .int w] (fun E' => EDs G ad k fo fx fy E' i (czN (fy i).toInt 3) ∧ ∀ j, j ≠ 51 → (j < 64 ∨ 67 < j) → E' j = E j) := by
  refine CtV.of (by decide) (Nat.le_of_ble_eq_true rfl) (fun X A C => ?_)
  refine v_sub (lv' := [(0, .ref (ad 51)), (1, .int a), (2, .int x), (3, .int w)]) [0, 1, 2, 3] rfl ?_
  obtain ⟨i51, el, eo, ex, ey, h51, hM, h64, h65, h66, h67, hE⟩ := id hED
  have hZ : ∀ z : Nat, z < 3 → (z : Int) ≠ (fy i).toInt → czN (fy i).toInt z < anN k (fo i).toInt (fx i).toInt ∧ anX (fo i).toInt (fx i).toInt (czN (fy i).toInt z) = (fx i).toInt ∧ anY (fo i).toInt (fy i).toInt (czN (fy i).toInt z) = (z : Int) := by rw [h7]; exact en_7 hw.1 hw.2
  refine v_iconst (v := 0) C dX3_addEndings_0 (by decide) ?_
  refine v_istore (lv' := [(0, .ref (ad 51)), (1, .int a), (2, .int x), (3, .int w), (4, .int 0)]) C [1, 2, 3, 4, 0] dX3_addEndings_1 (by decide) rfl ?_
  have LP1 : ∀ (t : Nat) (z1 : Nat) (y2 : Int32) (E3 : Nat → va_E), (y2.toInt = (z1 : Int)) → (EDs G ad k fo fx fy E3 i (czN (fy i).toInt z1) ∧ ∀ j, j ≠ 51 → (j < 64 ∨ 67 < j) → E3 j = E j) → (z1 ≤ 3) → 3 - (z1 : Int) < (t : Int) → V X G A 5 (QV X G A (n) ad (fun E' => EDs G ad k fo fx fy E' i (czN (fy i).toInt 3) ∧ ∀ j, j ≠ 51 → (j < 64 ∨ 67 < j) → E' j = E j)) (n) ad 0 0 E3 3 [(0, .ref (ad 51)), (1, .int a), (2, .int x), (3, .int w), (4, .int y2)] [] := by
    intro t6
    induction t6 with
    | zero => intro z1 y2 E3 hy2 hI4 hq5 hm8; exfalso; omega
    | succ t6 ih7 =>
      intro z1 y2 E3 hy2 hI4 hq5 hm8
      obtain ⟨zED, zO⟩ := id hI4
      obtain ⟨i5a, ela, eoa, exa, eya, z51, zM, z64, z65, z66, z67, zE⟩ := id zED
      refine v_iload C 4 dX3_addEndings_3 rfl ?_
      refine v_gnY C dX3_addEndings_5 (List.mem_of_getElem? (i := 1) rfl) ?_
      refine v_bipush (v := 7) C dX3_addEndings_8 (by decide) ?_
      refine v_lstY (v := 2) C dX3_addEndings_10 (ti_in (show (7 : Int32).toInt = 7 by decide) (by omega) (by omega)) (by decide) ?_
      refine b_icmp_gt C 36 dX3_addEndings_11 (by decide) hy2 (show (2 : Int32).toInt = 2 by decide) (fun c9 => ?_) (fun c9 => ?_)
      · exact v_vret C dX3_addEndings_36 rfl ⟨(by have e9 : z1 = 3 := (by omega); rw [e9] at zED; exact zED), zO⟩
      · refine v_iload C 4 dX3_addEndings_14 rfl ?_
        refine v_iload_n C 3 dX3_addEndings_16 rfl rfl ?_
        refine b_icmp_eq C 30 dX3_addEndings_17 (by decide) hy2 hwy (fun c10 => ?_) (fun c10 => ?_)
        · obtain ⟨x11, ex11⟩ : ∃ y : Int32, y = y2 + 1 := ⟨_, rfl⟩
          have hx11 : x11.toInt = ((z1 : Int) + 1) := by rw [ex11]; exact ti_add hy2 (show (1 : Int32).toInt = 1 by decide) (by omega) (by omega)
          refine v_iinc (v := x11) (lv' := [(0, .ref (ad 51)), (1, .int a), (2, .int x), (3, .int w), (4, .int x11)]) C 4 [1, 2, 3, 4, 0] dX3_addEndings_30 rfl (ex11.symm) (by decide) rfl ?_
          refine v_goto C 3 dX3_addEndings_33 (by decide) ?_
          exact ih7 (z1 + 1) x11 E3 (show Int32.toInt x11 = ((z1 + 1 : Nat) : Int) by have := hx11; omega) (⟨(by rw [cz_e (show (z1 : Int) = (fy i).toInt by omega)]; exact zED), zO⟩) (by omega) (by omega)
        · refine v_aload_n C 0 dX3_addEndings_20 rfl rfl ?_
          refine v_iload_n C 1 dX3_addEndings_21 rfl rfl ?_
          refine v_bipush (v := 7) C dX3_addEndings_22 (by decide) ?_
          refine v_iload_n C 2 dX3_addEndings_24 rfl rfl ?_
          refine v_iload C 4 dX3_addEndings_25 rfl ?_
          refine v_cVv C dX3_addEndings_27 lX3_102 mX3_addEdit 51 (by omega) z51 (by decide) rfl (g_addEdit l G n ad _ hn hk5 hN10 hok hi (hZ z1 (by omega) (by omega)).1 zED a 7 x y2 ha (by rw [h7]; decide) (hx.trans (hZ z1 (by omega) (by omega)).2.1.symm) (hy2.trans (hZ z1 (by omega) (by omega)).2.2.symm)) ⟨by decide, by decide⟩ rfl (Nat.le_of_ble_eq_true rfl) ⟨Nat.zero_le _, Nat.zero_le _⟩ (fun E12 hq13 => ?_)
          obtain ⟨x14, ex14⟩ : ∃ y : Int32, y = y2 + 1 := ⟨_, rfl⟩
          have hx14 : x14.toInt = ((z1 : Int) + 1) := by rw [ex14]; exact ti_add hy2 (show (1 : Int32).toInt = 1 by decide) (by omega) (by omega)
          refine v_iinc (v := x14) (lv' := [(0, .ref (ad 51)), (1, .int a), (2, .int x), (3, .int w), (4, .int x14)]) C 4 [1, 2, 3, 4, 0] dX3_addEndings_30 rfl (ex14.symm) (by decide) rfl ?_
          refine v_goto C 3 dX3_addEndings_33 (by decide) ?_
          exact ih7 (z1 + 1) x14 E12 (show Int32.toInt x14 = ((z1 + 1 : Nat) : Int) by have := hx14; omega) (⟨(by rw [cz_s (show (z1 : Int) ≠ (fy i).toInt by omega) (by omega)]; exact hq13.1), fun j g1 g2 => (hq13.2 j g1 g2).trans (zO j g1 g2)⟩) (by omega) (by omega)
  exact LP1 100000 0 0 E (show Int32.toInt 0 = ((0 : Nat) : Int) by have := (show (0 : Int32).toInt = 0 by decide); omega) (⟨(by rw [show czN (fy i).toInt 0 = 0 by unfold czN; rw [if_pos (by omega)]]; exact hED), fun _ _ _ => rfl⟩) (by omega) (by omega)

set_option maxRecDepth 20000 in
theorem g_abs (l : Launch) (G : Gl) (n : Nat) (ad : Nat → Nat) (E : Nat → va_E) (x : Int32) (hx : -9999 ≤ x.toInt ∧ x.toInt ≤ 9999) : CtI l G yJ9_abs_0f7a4 cJ9_abs_0f7a4 1 .int 0 0 (n) ad E [.int x] (fun r E' => ((0 ≤ x.toInt ∧ r.toInt = x.toInt) ∨ (x.toInt < 0 ∧ r.toInt = -x.toInt)) ∧ E = E') := by
  refine CtI.ofF (by decide +kernel) (Nat.le_of_ble_eq_true rfl) (fun X A C => ?_)
  refine v_sub (lv' := [(0, .int x)]) [0] rfl ?_
  refine v_iload_n C 0 dJ9_abs_0f7a4_0 rfl rfl ?_
  refine b_if_ge C 9 dJ9_abs_0f7a4_1 (by decide) (rfl : Int32.toInt x = _) (fun c1 => ?_) (fun c1 => ?_)
  · refine v_iload_n C 0 dJ9_abs_0f7a4_9 rfl rfl ?_
    exact v_ret C dJ9_abs_0f7a4_10 rfl rfl ⟨Or.inl ⟨by omega, rfl⟩, rfl⟩
  · refine v_iload_n C 0 dJ9_abs_0f7a4_4 rfl rfl ?_
    refine v_ineg C dJ9_abs_0f7a4_5 ?_
    refine v_goto C 10 dJ9_abs_0f7a4_6 (by decide) ?_
    exact v_ret C dJ9_abs_0f7a4_10 rfl rfl ⟨Or.inr ⟨by omega, ti_neg rfl (by omega)⟩, rfl⟩

set_option maxRecDepth 20000 in
theorem g_listEdits (l : Launch) (G : Gl) (n : Nat) (ad : Nat → Nat) (E : Nat → va_E) (hn : 98 ≤ n) (b : Nat) (hb : b + 6 ≤ 45) {sz : Int32} {fo fx fy : Nat → Int32} (hPg : PgX G ad b E sz fo fx fy) {N : Nat} (hN : sz.toInt = (N : Int)) (hN10 : N ≤ 10) {k : Nat} (hk5 : k ≤ 5) (hok : okLs k N fo fx fy) {i51 el eo ex ey : Nat → Int32} (h51 : E 51 = ob 3 (rfs ad [6, 48, 52, 58, 64, 65, 66, 67]) i51) (h64 : E 64 = aI G 50 el) (h65 : E 65 = aI G 50 eo) (h66 : E 66 = aI G 50 ex) (h67 : E 67 = aI G 50 ey) {iz : Nat → Int32} (h6 : E 6 = ob 7 (rfs ad [7]) iz) (hzk : (iz 1).toInt = (k : Int)) : CtV l G yX3_listEdits cX3_listEdits 5 2 49 (n) ad E [.ref (ad 51), .ref (ad b)] (fun E' => EDs G ad k fo fx fy E' N 0 ∧ ∀ j, j ≠ 51 → (j < 64 ∨ 67 < j) → E' j = E j) := by
  refine CtV.of (by decide) (Nat.le_of_ble_eq_true rfl) (fun X A C => ?_)
  refine v_sub (lv' := [(0, .ref (ad 51)), (1, .ref (ad b))]) [0, 1] rfl ?_
  obtain ⟨ip, po, px, py, tp, kd, hEb, hsz, -, -, hEb1, hEb2, hEb3, -, -, hre, hro, -⟩ := id hPg
  have hNt : sz.toInt.toNat = N := by omega
  rw [hNt] at hre hro
  have hsz6 : (ip 6).toInt = (N : Int) := by rw [hsz]; exact hN
  refine v_aload_n C 0 dX3_listEdits_0 rfl rfl ?_
  refine v_iconst (v := 0) C dX3_listEdits_1 (by decide) ?_
  refine v_puti C 51 dX3_listEdits_2 fX3_72 (by omega) h51 rfl rfl rfl rfl (fun E1 hE1_51 oE1 => ?_)
  have hE1_64 := (oE1 64 (by decide)).trans h64
  have hE1_65 := (oE1 65 (by decide)).trans h65
  have hE1_66 := (oE1 66 (by decide)).trans h66
  have hE1_67 := (oE1 67 (by decide)).trans h67
  have hE1_6 := (oE1 6 (by decide)).trans h6
  have hE1_b := (oE1 b (by omega)).trans hEb
  have hE1_b1 := (oE1 (b + 1) (by omega)).trans hEb1
  have hE1_b2 := (oE1 (b + 2) (by omega)).trans hEb2
  have hE1_b3 := (oE1 (b + 3) (by omega)).trans hEb3
  refine v_iconst (v := 0) C dX3_listEdits_5 (by decide) ?_
  refine v_istore_n (lv' := [(0, .ref (ad 51)), (1, .ref (ad b)), (2, .int 0)]) C [1, 2, 0] dX3_listEdits_6 rfl (by decide) rfl ?_
  have LP2 : ∀ (t : Nat) (i1 : Nat) (y3 : Int32) (E4 : Nat → va_E), (y3.toInt = (i1 : Int)) → (EDs G ad k fo fx fy E4 i1 0 ∧ ∀ j, j ≠ 51 → (j < 64 ∨ 67 < j) → E4 j = E j) → (i1 ≤ N) → (N : Int) - (i1 : Int) < (t : Int) → V X G A 5 (QV X G A (n) ad (fun E' => EDs G ad k fo fx fy E' N 0 ∧ ∀ j, j ≠ 51 → (j < 64 ∨ 67 < j) → E' j = E j)) (n) ad 0 0 E4 7 [(0, .ref (ad 51)), (1, .ref (ad b)), (2, .int y3)] [] := by
    intro t7
    induction t7 with
    | zero => intro i1 y3 E4 hy3 hI5 hq6 hm9; exfalso; omega
    | succ t7 ih8 =>
      intro i1 y3 E4 hy3 hI5 hq6 hm9
      obtain ⟨zED, zO⟩ := id hI5
      obtain ⟨i5a, ela, eoa, exa, eya, z51, zM, z64, z65, z66, z67, zE⟩ := id zED
      have z_6 := (zO 6 (by omega) (by omega)).trans h6
      have z_b := (zO b (by omega) (by omega)).trans hEb
      have z_b1 := (zO (b + 1) (by omega) (by omega)).trans hEb1
      have z_b2 := (zO (b + 2) (by omega) (by omega)).trans hEb2
      have z_b3 := (zO (b + 3) (by omega) (by omega)).trans hEb3
      refine v_iload_n C 2 dX3_listEdits_7 rfl rfl ?_
      refine v_aload_n C 1 dX3_listEdits_8 rfl rfl ?_
      refine v_geti (v := ip 6) C b dX3_listEdits_9 fX3_99 (by omega) z_b rfl rfl ?_
      refine b_icmp_ge C 191 dX3_listEdits_12 (by decide) hy3 hsz6 (fun c10 => ?_) (fun c10 => ?_)
      · exact v_vret C dX3_listEdits_191 rfl ⟨(by rw [show N = i1 by omega]; exact zED), zO⟩
      · obtain ⟨he1, he2, he3⟩ := hre i1 (by omega)
        have hpo : (po i1).toInt = (fo i1).toInt := by rw [he1]
        have hpx : (px i1).toInt = (fx i1).toInt := by rw [he2]
        have hpy : (py i1).toInt = (fy i1).toInt := by rw [he3]
        have hln := hok i1 (by omega)
        have hlb := okLn_b hk5 hln
        have hi : i1 < N := by omega
        refine v_aload_n C 1 dX3_listEdits_15 rfl rfl ?_
        refine v_getr C b dX3_listEdits_16 fX3_93 (by omega) z_b rfl rfl ?_
        refine v_iload_n C 2 dX3_listEdits_19 rfl rfl ?_
        refine v_ald (v := px i1) C (b + 2) dX3_listEdits_20 (by omega) z_b2 (ti_in hy3 (by omega) (by omega)) (by rw [ti_cl hy3, show Int.toNat (i1 : Int) = i1 by omega]) ?_
        refine v_istore_n (lv' := [(0, .ref (ad 51)), (1, .ref (ad b)), (2, .int y3), (3, .int (px i1))]) C [1, 2, 3, 0] dX3_listEdits_21 rfl (by decide) rfl ?_
        refine v_aload_n C 1 dX3_listEdits_22 rfl rfl ?_
        refine v_getr C b dX3_listEdits_23 fX3_96 (by omega) z_b rfl rfl ?_
        refine v_iload_n C 2 dX3_listEdits_26 rfl rfl ?_
        refine v_ald (v := py i1) C (b + 3) dX3_listEdits_27 (by omega) z_b3 (ti_in hy3 (by omega) (by omega)) (by rw [ti_cl hy3, show Int.toNat (i1 : Int) = i1 by omega]) ?_
        refine v_istore (lv' := [(0, .ref (ad 51)), (1, .ref (ad b)), (2, .int y3), (3, .int (px i1)), (4, .int (py i1))]) C [1, 2, 3, 4, 0] dX3_listEdits_28 (by decide) rfl ?_
        refine v_aload_n C 1 dX3_listEdits_30 rfl rfl ?_
        refine v_getr C b dX3_listEdits_31 fX3_90 (by omega) z_b rfl rfl ?_
        refine v_iload_n C 2 dX3_listEdits_34 rfl rfl ?_
        refine v_ald (v := po i1) C (b + 1) dX3_listEdits_35 (by omega) z_b1 (ti_in hy3 (by omega) (by omega)) (by rw [ti_cl hy3, show Int.toNat (i1 : Int) = i1 by omega]) ?_
        have q11v : Int32.toInt (po i1) = (fo i1).toInt := hpo
        rcases (show (fo i1).toInt = 1 ∨ (fo i1).toInt = 2 ∨ (fo i1).toInt = 3 ∨ (fo i1).toInt = 4 ∨ (fo i1).toInt = 5 ∨ (fo i1).toInt = 6 ∨ (fo i1).toInt = 7 ∨ ((fo i1).toInt < 1 ∨ 7 < (fo i1).toInt) by omega) with q11 | q11 | q11 | q11 | q11 | q11 | q11 | q11
        · refine v_tableIn (off := 67) C 103 dX3_listEdits_36 (by omega) (by omega) (by rw [q11v, q11]; rfl) (by decide) ?_
          refine v_aload_n C 0 dX3_listEdits_103 rfl rfl ?_
          refine v_iload_n C 2 dX3_listEdits_104 rfl rfl ?_
          refine v_iconst (v := 1) C dX3_listEdits_105 (by decide) ?_
          refine v_iload_n C 3 dX3_listEdits_106 rfl rfl ?_
          refine v_iload C 4 dX3_listEdits_107 rfl ?_
          refine v_cVv C dX3_listEdits_109 lX3_105 mX3_addZones 51 (by omega) z51 (by decide) rfl (g_addZones l G n ad _ hn hk5 hN10 hok hi (c0 := 0) zED z_6 hzk y3 1 (px i1) (py i1) hy3 (by rw [q11]; decide) (by omega) (by rw [hpx, hpy, q11]; exact zn_1 (by omega) (by omega))) ⟨by decide, by decide⟩ rfl (Nat.le_of_ble_eq_true rfl) ⟨Nat.zero_le _, Nat.zero_le _⟩ (fun E12 hq13 => ?_)
          obtain ⟨xED, xO⟩ := hq13
          rw [hpx, cz_k (by omega)] at xED
          refine v_goto C 185 dX3_listEdits_112 (by decide) ?_
          obtain ⟨x14, ex14⟩ : ∃ y : Int32, y = y3 + 1 := ⟨_, rfl⟩
          have hx14 : x14.toInt = ((i1 : Int) + 1) := by rw [ex14]; exact ti_add hy3 (show (1 : Int32).toInt = 1 by decide) (by omega) (by omega)
          refine v_iinc (v := x14) (lv' := [(0, .ref (ad 51)), (1, .ref (ad b)), (2, .int x14), (3, .int (px i1)), (4, .int (py i1))]) C 2 [1, 2, 0, 3, 4] dX3_listEdits_185 rfl (ex14.symm) (by decide) rfl ?_
          refine v_goto C 7 dX3_listEdits_188 (by decide) ?_
          refine v_sub (lv' := [(0, .ref (ad 51)), (1, .ref (ad b)), (2, .int x14)]) [0, 1, 2] rfl ?_
          exact ih8 (i1 + 1) x14 E12 (show Int32.toInt x14 = ((i1 + 1 : Nat) : Int) by have := hx14; omega) (⟨xED.next (by rw [q11, an_1]; omega), fun j g1 g2 => (xO j g1 g2).trans (zO j g1 g2)⟩) (by omega) (by omega)
        · refine v_tableIn (off := 149) C 185 dX3_listEdits_36 (by omega) (by omega) (by rw [q11v, q11]; rfl) (by decide) ?_
          obtain ⟨x15, ex15⟩ : ∃ y : Int32, y = y3 + 1 := ⟨_, rfl⟩
          have hx15 : x15.toInt = ((i1 : Int) + 1) := by rw [ex15]; exact ti_add hy3 (show (1 : Int32).toInt = 1 by decide) (by omega) (by omega)
          refine v_iinc (v := x15) (lv' := [(0, .ref (ad 51)), (1, .ref (ad b)), (2, .int x15), (3, .int (px i1)), (4, .int (py i1))]) C 2 [1, 2, 0, 3, 4] dX3_listEdits_185 rfl (ex15.symm) (by decide) rfl ?_
          refine v_goto C 7 dX3_listEdits_188 (by decide) ?_
          refine v_sub (lv' := [(0, .ref (ad 51)), (1, .ref (ad b)), (2, .int x15)]) [0, 1, 2] rfl ?_
          exact ih8 (i1 + 1) x15 E4 (show Int32.toInt x15 = ((i1 + 1 : Nat) : Int) by have := hx15; omega) (⟨zED.next (by rw [an_no (by omega)]), zO⟩) (by omega) (by omega)
        · refine v_tableIn (off := 149) C 185 dX3_listEdits_36 (by omega) (by omega) (by rw [q11v, q11]; rfl) (by decide) ?_
          obtain ⟨x16, ex16⟩ : ∃ y : Int32, y = y3 + 1 := ⟨_, rfl⟩
          have hx16 : x16.toInt = ((i1 : Int) + 1) := by rw [ex16]; exact ti_add hy3 (show (1 : Int32).toInt = 1 by decide) (by omega) (by omega)
          refine v_iinc (v := x16) (lv' := [(0, .ref (ad 51)), (1, .ref (ad b)), (2, .int x16), (3, .int (px i1)), (4, .int (py i1))]) C 2 [1, 2, 0, 3, 4] dX3_listEdits_185 rfl (ex16.symm) (by decide) rfl ?_
          refine v_goto C 7 dX3_listEdits_188 (by decide) ?_
          refine v_sub (lv' := [(0, .ref (ad 51)), (1, .ref (ad b)), (2, .int x16)]) [0, 1, 2] rfl ?_
          exact ih8 (i1 + 1) x16 E4 (show Int32.toInt x16 = ((i1 + 1 : Nat) : Int) by have := hx16; omega) (⟨zED.next (by rw [an_no (by omega)]), zO⟩) (by omega) (by omega)
        · refine v_tableIn (off := 44) C 80 dX3_listEdits_36 (by omega) (by omega) (by rw [q11v, q11]; rfl) (by decide) ?_
          refine v_aload_n C 0 dX3_listEdits_80 rfl rfl ?_
          refine v_iload_n C 2 dX3_listEdits_81 rfl rfl ?_
          refine v_iconst (v := 4) C dX3_listEdits_82 (by decide) ?_
          refine v_iload_n C 3 dX3_listEdits_83 rfl rfl ?_
          refine v_iconst (v := 1) C dX3_listEdits_84 (by decide) ?_
          refine v_iload C 4 dX3_listEdits_85 rfl ?_
          refine v_isub C dX3_listEdits_87 ?_
          refine v_top (fun x17 ex17 => ?_)
          have hx17 : x17.toInt = (1 - (fy i1).toInt) := by rw [ex17]; exact ti_sub (show (1 : Int32).toInt = 1 by decide) hpy (by omega) (by omega)
          refine v_cVv C dX3_listEdits_88 lX3_102 mX3_addEdit 51 (by omega) z51 (by decide) rfl (g_addEdit l G n ad _ hn hk5 hN10 hok hi (c := 0) (by rw [q11, an_4]; omega) zED y3 4 (px i1) x17 hy3 (by rw [q11]; decide) (by rw [q11]; exact hpx) (by rw [q11]; exact hx17)) ⟨by decide, by decide⟩ rfl (Nat.le_of_ble_eq_true rfl) ⟨Nat.zero_le _, Nat.zero_le _⟩ (fun E18 hq19 => ?_)
          obtain ⟨yED, yO⟩ := hq19
          obtain ⟨i5b, elb, eob, exb, eyb, y51, -⟩ := id yED
          have y6 := (yO 6 (by decide) (by omega)).trans z_6
          refine v_aload_n C 0 dX3_listEdits_91 rfl rfl ?_
          refine v_iload_n C 2 dX3_listEdits_92 rfl rfl ?_
          refine v_iconst (v := 4) C dX3_listEdits_93 (by decide) ?_
          refine v_iload_n C 3 dX3_listEdits_94 rfl rfl ?_
          refine v_iload C 4 dX3_listEdits_95 rfl ?_
          refine v_cVv C dX3_listEdits_97 lX3_105 mX3_addZones 51 (by omega) y51 (by decide) rfl (g_addZones l G n ad _ hn hk5 hN10 hok hi (c0 := 1) yED y6 hzk y3 4 (px i1) (py i1) hy3 (by rw [q11]; decide) (by omega) (by rw [hpx, hpy, q11]; exact zn_4 (by omega) (by omega))) ⟨by decide, by decide⟩ rfl (Nat.le_of_ble_eq_true rfl) ⟨Nat.zero_le _, Nat.zero_le _⟩ (fun E20 hq21 => ?_)
          obtain ⟨xED, xO⟩ := hq21
          rw [hpx, cz_k (by omega)] at xED
          refine v_goto C 185 dX3_listEdits_100 (by decide) ?_
          obtain ⟨x22, ex22⟩ : ∃ y : Int32, y = y3 + 1 := ⟨_, rfl⟩
          have hx22 : x22.toInt = ((i1 : Int) + 1) := by rw [ex22]; exact ti_add hy3 (show (1 : Int32).toInt = 1 by decide) (by omega) (by omega)
          refine v_iinc (v := x22) (lv' := [(0, .ref (ad 51)), (1, .ref (ad b)), (2, .int x22), (3, .int (px i1)), (4, .int (py i1))]) C 2 [1, 2, 0, 3, 4] dX3_listEdits_185 rfl (ex22.symm) (by decide) rfl ?_
          refine v_goto C 7 dX3_listEdits_188 (by decide) ?_
          refine v_sub (lv' := [(0, .ref (ad 51)), (1, .ref (ad b)), (2, .int x22)]) [0, 1, 2] rfl ?_
          exact ih8 (i1 + 1) x22 E20 (show Int32.toInt x22 = ((i1 + 1 : Nat) : Int) by have := hx22; omega) (⟨xED.next (by rw [q11, an_4]; omega), fun j g1 g2 => (xO j g1 g2).trans ((yO j g1 g2).trans (zO j g1 g2))⟩) (by omega) (by omega)
        · refine v_tableIn (off := 79) C 115 dX3_listEdits_36 (by omega) (by omega) (by rw [q11v, q11]; rfl) (by decide) ?_
          refine v_iload_n C 3 dX3_listEdits_115 rfl rfl ?_
          refine b_if_eq C 185 dX3_listEdits_116 (by decide) hpx (fun c23 => ?_) (fun c23 => ?_)
          · obtain ⟨x24, ex24⟩ : ∃ y : Int32, y = y3 + 1 := ⟨_, rfl⟩
            have hx24 : x24.toInt = ((i1 : Int) + 1) := by rw [ex24]; exact ti_add hy3 (show (1 : Int32).toInt = 1 by decide) (by omega) (by omega)
            refine v_iinc (v := x24) (lv' := [(0, .ref (ad 51)), (1, .ref (ad b)), (2, .int x24), (3, .int (px i1)), (4, .int (py i1))]) C 2 [1, 2, 0, 3, 4] dX3_listEdits_185 rfl (ex24.symm) (by decide) rfl ?_
            refine v_goto C 7 dX3_listEdits_188 (by decide) ?_
            refine v_sub (lv' := [(0, .ref (ad 51)), (1, .ref (ad b)), (2, .int x24)]) [0, 1, 2] rfl ?_
            exact ih8 (i1 + 1) x24 E4 (show Int32.toInt x24 = ((i1 + 1 : Nat) : Int) by have := hx24; omega) (⟨zED.next (by rw [q11, an_5n (by omega)]), zO⟩) (by omega) (by omega)
          · refine v_iload_n C 3 dX3_listEdits_119 rfl rfl ?_
            refine v_sipush (v := 1440) C dX3_listEdits_120 (by decide) ?_
            refine v_irem C dX3_listEdits_123 (by decide) ?_
            obtain ⟨R9, hR9, hR0⟩ := trem0 (x := px i1) hpx (by omega)
            refine b_if_ne C 185 dX3_listEdits_124 (by decide) hR9 (fun c25 => ?_) (fun c25 => ?_)
            · obtain ⟨x26, ex26⟩ : ∃ y : Int32, y = y3 + 1 := ⟨_, rfl⟩
              have hx26 : x26.toInt = ((i1 : Int) + 1) := by rw [ex26]; exact ti_add hy3 (show (1 : Int32).toInt = 1 by decide) (by omega) (by omega)
              refine v_iinc (v := x26) (lv' := [(0, .ref (ad 51)), (1, .ref (ad b)), (2, .int x26), (3, .int (px i1)), (4, .int (py i1))]) C 2 [1, 2, 0, 3, 4] dX3_listEdits_185 rfl (ex26.symm) (by decide) rfl ?_
              refine v_goto C 7 dX3_listEdits_188 (by decide) ?_
              refine v_sub (lv' := [(0, .ref (ad 51)), (1, .ref (ad b)), (2, .int x26)]) [0, 1, 2] rfl ?_
              exact ih8 (i1 + 1) x26 E4 (show Int32.toInt x26 = ((i1 + 1 : Nat) : Int) by have := hx26; omega) (⟨zED.next (by rw [q11, an_5n (by omega)]), zO⟩) (by omega) (by omega)
            · refine v_aload_n C 0 dX3_listEdits_127 rfl rfl ?_
              refine v_iload_n C 2 dX3_listEdits_128 rfl rfl ?_
              refine v_bipush (v := 6) C dX3_listEdits_129 (by decide) ?_
              refine v_iload_n C 3 dX3_listEdits_131 rfl rfl ?_
              refine v_sipush (v := 1440) C dX3_listEdits_132 (by decide) ?_
              refine v_idiv C dX3_listEdits_135 (by decide) ?_
              obtain ⟨Q9, hQ9, hQ0⟩ := tdiv0 (x := px i1) hpx
              have hQ1 := hQ0 (by omega)
              refine v_iconst (v := 0) C dX3_listEdits_136 (by decide) ?_
              refine v_cVv C dX3_listEdits_137 lX3_102 mX3_addEdit 51 (by omega) z51 (by decide) rfl (g_addEdit l G n ad _ hn hk5 hN10 hok hi (c := 0) (by rw [q11, an_5y (by omega)]; decide) zED y3 6 ((px i1) / 1440) 0 hy3 (by rw [q11]; decide) (by rw [q11]; show Int32.toInt ((px i1) / 1440) = (fx i1).toInt / 1440; have := hQ9; omega) (by rw [q11]; show (0 : Int32).toInt = (fy i1).toInt; have z : (0 : Int32).toInt = 0 := (by decide); omega)) ⟨by decide, by decide⟩ rfl (Nat.le_of_ble_eq_true rfl) ⟨Nat.zero_le _, Nat.zero_le _⟩ (fun E27 hq28 => ?_)
              obtain ⟨yED, yO⟩ := hq28
              obtain ⟨i5b, elb, eob, exb, eyb, y51, -⟩ := id yED
              have y6 := (yO 6 (by decide) (by omega)).trans z_6
              refine v_goto C 185 dX3_listEdits_140 (by decide) ?_
              obtain ⟨x29, ex29⟩ : ∃ y : Int32, y = y3 + 1 := ⟨_, rfl⟩
              have hx29 : x29.toInt = ((i1 : Int) + 1) := by rw [ex29]; exact ti_add hy3 (show (1 : Int32).toInt = 1 by decide) (by omega) (by omega)
              refine v_iinc (v := x29) (lv' := [(0, .ref (ad 51)), (1, .ref (ad b)), (2, .int x29), (3, .int (px i1)), (4, .int (py i1))]) C 2 [1, 2, 0, 3, 4] dX3_listEdits_185 rfl (ex29.symm) (by decide) rfl ?_
              refine v_goto C 7 dX3_listEdits_188 (by decide) ?_
              refine v_sub (lv' := [(0, .ref (ad 51)), (1, .ref (ad b)), (2, .int x29)]) [0, 1, 2] rfl ?_
              exact ih8 (i1 + 1) x29 E27 (show Int32.toInt x29 = ((i1 + 1 : Nat) : Int) by have := hx29; omega) (⟨yED.next (by rw [q11, an_5y (by omega)]), fun j g1 g2 => (yO j g1 g2).trans (zO j g1 g2)⟩) (by omega) (by omega)
        · refine v_tableIn (off := 107) C 143 dX3_listEdits_36 (by omega) (by omega) (by rw [q11v, q11]; rfl) (by decide) ?_
          refine v_iload_n C 3 dX3_listEdits_143 rfl rfl ?_
          refine v_cSp C dX3_listEdits_144 lX3_108 mJ9_abs_0f7a4 (g_abs l G _ ad _ (px i1) (by rw [hpx]; omega)) ⟨by decide, by decide⟩ rfl (Nat.le_of_ble_eq_true rfl) ⟨Nat.zero_le _, Nat.zero_le _⟩ (fun r30 hp31 => ?_)
          rw [hpx] at hp31
          refine v_sipush (v := 1440) C dX3_listEdits_147 (by decide) ?_
          refine v_imul C dX3_listEdits_150 ?_
          refine v_top (fun x32 ex32 => ?_)
          have hx32 : x32.toInt = (r30.toInt * 1440) := by rw [ex32]; exact ti_mul (rfl : Int32.toInt r30 = _) (show (1440 : Int32).toInt = 1440 by decide) (by omega) (by omega)
          refine v_gnX C dX3_listEdits_151 (List.mem_of_getElem? (i := 0) rfl) ?_
          refine v_iconst (v := 5) C dX3_listEdits_154 (by decide) ?_
          refine v_lstX (v := 9999) C dX3_listEdits_155 (ti_in (show (5 : Int32).toInt = 5 by decide) (by omega) (by omega)) (by decide) ?_
          refine b_icmp_gt C 185 dX3_listEdits_156 (by decide) hx32 (show (9999 : Int32).toInt = 9999 by decide) (fun c33 => ?_) (fun c33 => ?_)
          · obtain ⟨x34, ex34⟩ : ∃ y : Int32, y = y3 + 1 := ⟨_, rfl⟩
            have hx34 : x34.toInt = ((i1 : Int) + 1) := by rw [ex34]; exact ti_add hy3 (show (1 : Int32).toInt = 1 by decide) (by omega) (by omega)
            refine v_iinc (v := x34) (lv' := [(0, .ref (ad 51)), (1, .ref (ad b)), (2, .int x34), (3, .int (px i1)), (4, .int (py i1))]) C 2 [1, 2, 0, 3, 4] dX3_listEdits_185 rfl (ex34.symm) (by decide) rfl ?_
            refine v_goto C 7 dX3_listEdits_188 (by decide) ?_
            refine v_sub (lv' := [(0, .ref (ad 51)), (1, .ref (ad b)), (2, .int x34)]) [0, 1, 2] rfl ?_
            exact ih8 (i1 + 1) x34 E4 (show Int32.toInt x34 = ((i1 + 1 : Nat) : Int) by have := hx34; omega) (⟨zED.next (by rw [q11, an_6n (by omega)]), zO⟩) (by omega) (by omega)
          · refine v_aload_n C 0 dX3_listEdits_159 rfl rfl ?_
            refine v_iload_n C 2 dX3_listEdits_160 rfl rfl ?_
            refine v_iconst (v := 5) C dX3_listEdits_161 (by decide) ?_
            refine v_iload_n C 3 dX3_listEdits_162 rfl rfl ?_
            refine v_sipush (v := 1440) C dX3_listEdits_163 (by decide) ?_
            refine v_imul C dX3_listEdits_166 ?_
            refine v_top (fun x35 ex35 => ?_)
            have hx35 : x35.toInt = ((fx i1).toInt * 1440) := by rw [ex35]; exact ti_mul hpx (show (1440 : Int32).toInt = 1440 by decide) (by omega) (by omega)
            refine v_iconst (v := 0) C dX3_listEdits_167 (by decide) ?_
            refine v_cVv C dX3_listEdits_168 lX3_102 mX3_addEdit 51 (by omega) z51 (by decide) rfl (g_addEdit l G n ad _ hn hk5 hN10 hok hi (c := 0) (by rw [q11, an_6y (by omega)]; decide) zED y3 5 x35 0 hy3 (by rw [q11]; decide) (by rw [q11]; show Int32.toInt x35 = 1440 * (fx i1).toInt; have := hx35; omega) (by rw [q11]; show (0 : Int32).toInt = (fy i1).toInt; have z : (0 : Int32).toInt = 0 := (by decide); omega)) ⟨by decide, by decide⟩ rfl (Nat.le_of_ble_eq_true rfl) ⟨Nat.zero_le _, Nat.zero_le _⟩ (fun E36 hq37 => ?_)
            obtain ⟨yED, yO⟩ := hq37
            obtain ⟨i5b, elb, eob, exb, eyb, y51, -⟩ := id yED
            have y6 := (yO 6 (by decide) (by omega)).trans z_6
            refine v_goto C 185 dX3_listEdits_171 (by decide) ?_
            obtain ⟨x38, ex38⟩ : ∃ y : Int32, y = y3 + 1 := ⟨_, rfl⟩
            have hx38 : x38.toInt = ((i1 : Int) + 1) := by rw [ex38]; exact ti_add hy3 (show (1 : Int32).toInt = 1 by decide) (by omega) (by omega)
            refine v_iinc (v := x38) (lv' := [(0, .ref (ad 51)), (1, .ref (ad b)), (2, .int x38), (3, .int (px i1)), (4, .int (py i1))]) C 2 [1, 2, 0, 3, 4] dX3_listEdits_185 rfl (ex38.symm) (by decide) rfl ?_
            refine v_goto C 7 dX3_listEdits_188 (by decide) ?_
            refine v_sub (lv' := [(0, .ref (ad 51)), (1, .ref (ad b)), (2, .int x38)]) [0, 1, 2] rfl ?_
            exact ih8 (i1 + 1) x38 E36 (show Int32.toInt x38 = ((i1 + 1 : Nat) : Int) by have := hx38; omega) (⟨yED.next (by rw [q11, an_6y (by omega)]), fun j g1 g2 => (yO j g1 g2).trans (zO j g1 g2)⟩) (by omega) (by omega)
        · refine v_tableIn (off := 138) C 174 dX3_listEdits_36 (by omega) (by omega) (by rw [q11v, q11]; rfl) (by decide) ?_
          refine v_aload_n C 0 dX3_listEdits_174 rfl rfl ?_
          refine v_iload_n C 2 dX3_listEdits_175 rfl rfl ?_
          refine v_iload_n C 3 dX3_listEdits_176 rfl rfl ?_
          refine v_iload C 4 dX3_listEdits_177 rfl ?_
          refine v_cVv C dX3_listEdits_179 lX3_116 mX3_addEndings 51 (by omega) z51 (by decide) rfl (g_addEndings l G n ad _ hn hk5 hN10 hok hi zED y3 (px i1) (py i1) hy3 q11 hpx hpy (by omega)) ⟨by decide, by decide⟩ rfl (Nat.le_of_ble_eq_true rfl) ⟨Nat.zero_le _, Nat.zero_le _⟩ (fun E39 hq40 => ?_)
          obtain ⟨xED, xO⟩ := hq40
          rw [cz_k (k := 3) (by omega)] at xED
          refine v_goto C 185 dX3_listEdits_182 (by decide) ?_
          obtain ⟨x41, ex41⟩ : ∃ y : Int32, y = y3 + 1 := ⟨_, rfl⟩
          have hx41 : x41.toInt = ((i1 : Int) + 1) := by rw [ex41]; exact ti_add hy3 (show (1 : Int32).toInt = 1 by decide) (by omega) (by omega)
          refine v_iinc (v := x41) (lv' := [(0, .ref (ad 51)), (1, .ref (ad b)), (2, .int x41), (3, .int (px i1)), (4, .int (py i1))]) C 2 [1, 2, 0, 3, 4] dX3_listEdits_185 rfl (ex41.symm) (by decide) rfl ?_
          refine v_goto C 7 dX3_listEdits_188 (by decide) ?_
          refine v_sub (lv' := [(0, .ref (ad 51)), (1, .ref (ad b)), (2, .int x41)]) [0, 1, 2] rfl ?_
          exact ih8 (i1 + 1) x41 E39 (show Int32.toInt x41 = ((i1 + 1 : Nat) : Int) by have := hx41; omega) (⟨xED.next (by rw [q11, an_7]), fun j g1 g2 => (xO j g1 g2).trans (zO j g1 g2)⟩) (by omega) (by omega)
        · refine v_tableOut C 185 dX3_listEdits_36 (by omega) (by decide) ?_
          obtain ⟨x42, ex42⟩ : ∃ y : Int32, y = y3 + 1 := ⟨_, rfl⟩
          have hx42 : x42.toInt = ((i1 : Int) + 1) := by rw [ex42]; exact ti_add hy3 (show (1 : Int32).toInt = 1 by decide) (by omega) (by omega)
          refine v_iinc (v := x42) (lv' := [(0, .ref (ad 51)), (1, .ref (ad b)), (2, .int x42), (3, .int (px i1)), (4, .int (py i1))]) C 2 [1, 2, 0, 3, 4] dX3_listEdits_185 rfl (ex42.symm) (by decide) rfl ?_
          refine v_goto C 7 dX3_listEdits_188 (by decide) ?_
          refine v_sub (lv' := [(0, .ref (ad 51)), (1, .ref (ad b)), (2, .int x42)]) [0, 1, 2] rfl ?_
          exact ih8 (i1 + 1) x42 E4 (show Int32.toInt x42 = ((i1 + 1 : Nat) : Int) by have := hx42; omega) (⟨zED.next (by rw [an_no (by omega)]), zO⟩) (by omega) (by omega)
  exact LP2 100000 0 0 E1 (show Int32.toInt 0 = ((0 : Nat) : Int) by have := (show (0 : Int32).toInt = 0 by decide); omega) (⟨⟨_, el, eo, ex, ey, hE1_51, (show (0 : Int32).toInt = ((0 : Nat) : Int) by decide), hE1_64, hE1_65, hE1_66, hE1_67, fun l d hl => by rcases hl with ⟨q, _⟩ | ⟨_, q⟩ <;> omega⟩, fun j g1 g2 => (oE1 j (by omega))⟩) (by omega) (by omega)

