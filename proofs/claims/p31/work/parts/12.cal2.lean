set_option maxRecDepth 20000 in
theorem lp_reckon1 {X : Mx} {l : Launch} {G : Gl} {A : Nat → Prop} {ret : Option FieldType} {R : Room} {Q : State → Prop} {n : Nat} {ad : Nat → Nat} (C : Cx X l G A "OddHours$Calendar" cX0_reckon 4 ret R) (hn : 6 ≤ n) {ic md : Nat → Int32} (hP : CalP ic md) (E0 : Nat → va_E) (h01 : E0 1 = ob 0 (rfs ad [2, 3, 4, 5]) ic) (h02 : E0 2 = aI G 12 md)
    (kont : ∀ (E : Nat → va_E) (ms : Nat → Int32) (x1 x2 : Int32), x1.toInt = MSf md 12 → E 3 = aI G 12 ms → (∀ j, j < 12 → (ms j).toInt = MSf md j) → (∀ j, j ≠ 3 → E j = E0 j) → V X G A 4 Q n ad 0 0 E 32 [(0, .ref (ad 1)), (1, .int x1), (2, .int x2)] []) :
    ∀ (t k : Nat) (E : Nat → va_E) (ms : Nat → Int32) (x1 x2 : Int32), k + t = 12 → x1.toInt = MSf md k → x2.toInt = (k : Int) → E 3 = aI G 12 ms → (∀ j, j < k → (ms j).toInt = MSf md j) → (∀ j, j ≠ 3 → E j = E0 j) → V X G A 4 Q n ad 0 0 E 4 [(0, .ref (ad 1)), (1, .int x1), (2, .int x2)] [] := by
  intro t
  induction t with
  | zero =>
    intro k E ms x1 x2 hk hx1 hx2 hE3 hi hfr
    have hE1 := (hfr 1 (by decide)).trans h01
    have hE2 := (hfr 2 (by decide)).trans h02
    refine v_iload_n C 2 dX0_reckon_4 rfl rfl ?_
    refine v_bipush (v := 12) C dX0_reckon_5 (by decide) ?_
    refine b_icmp_ge C 32 dX0_reckon_7 (by decide) hx2 (show (12 : Int32).toInt = 12 by decide) (fun c1 => ?_) (fun c1 => by exfalso; omega)
    exact kont E ms x1 x2 (by rw [hx1, show k = 12 by omega]) hE3 (fun j hj => hi j (by omega)) hfr
  | succ t ih =>
    intro k E ms x1 x2 hk hx1 hx2 hE3 hi hfr
    have hE1 := (hfr 1 (by decide)).trans h01
    have hE2 := (hfr 2 (by decide)).trans h02
    refine v_iload_n C 2 dX0_reckon_4 rfl rfl ?_
    refine v_bipush (v := 12) C dX0_reckon_5 (by decide) ?_
    refine b_icmp_ge C 32 dX0_reckon_7 (by decide) hx2 (show (12 : Int32).toInt = 12 by decide) (fun c1 => by exfalso; omega) (fun c1 => ?_)
    have qm := hP.1 k (by omega)
    have qM := MS_b hP.1 k (by omega)
    refine v_aload_n C 0 dX0_reckon_10 rfl rfl ?_
    refine v_getr C 1 dX0_reckon_11 fX0_15 (by omega) hE1 rfl rfl ?_
    refine v_iload_n C 2 dX0_reckon_14 rfl rfl ?_
    refine v_iload_n C 1 dX0_reckon_15 rfl rfl ?_
    refine v_ast C 3 dX0_reckon_16 (by omega) hE3 (ti_in hx2 (by omega) (by omega)) (fun E2 hE2_3 oE2 => ?_)
    rw [ti_cl hx2, show Int.toNat (k : Int) = k by omega] at hE2_3
    have hE2_1 := (oE2 1 (by decide)).trans hE1
    have hE2_2 := (oE2 2 (by decide)).trans hE2
    refine v_iload_n C 1 dX0_reckon_17 rfl rfl ?_
    refine v_aload_n C 0 dX0_reckon_18 rfl rfl ?_
    refine v_getr C 1 dX0_reckon_19 fX0_9 (by omega) hE2_1 rfl rfl ?_
    refine v_iload_n C 2 dX0_reckon_22 rfl rfl ?_
    refine v_ald (v := md k) C 2 dX0_reckon_23 (by omega) hE2_2 (ti_in hx2 (by omega) (by omega)) (by rw [ti_cl hx2, show Int.toNat (k : Int) = k by omega]) ?_
    refine v_iadd C dX0_reckon_24 ?_
    refine v_top (fun x3 ex3 => ?_)
    have hx3 : x3.toInt = ((MSf md k) + (md k).toInt) := by rw [ex3]; exact ti_add hx1 (rfl : Int32.toInt (md k) = _) (by omega) (by omega)
    refine v_istore_n (lv' := [(0, .ref (ad 1)), (1, .int x3), (2, .int x2)]) C [1, 0, 2] dX0_reckon_25 rfl (by decide) rfl ?_
    obtain ⟨x4, ex4⟩ : ∃ y : Int32, y = x2 + 1 := ⟨_, rfl⟩
    have hx4 : x4.toInt = ((k : Int) + 1) := by rw [ex4]; exact ti_add hx2 (show (1 : Int32).toInt = 1 by decide) (by omega) (by omega)
    refine v_iinc (v := x4) (lv' := [(0, .ref (ad 1)), (1, .int x3), (2, .int x4)]) C 2 [1, 2, 0] dX0_reckon_26 rfl (ex4.symm) (by decide) rfl ?_
    refine v_goto C 4 dX0_reckon_29 (by decide) ?_
    exact ih (k + 1) _ _ x3 x4 (by omega) hx3 (by rw [hx4]; omega) hE2_3 (fun j hj => by by_cases h : j = k; (subst h; rw [pk_us]; exact hx1); (rw [pk_un h]; exact hi j (by omega))) (fun j hj => (oE2 j hj).trans (hfr j hj))

set_option maxRecDepth 20000 in
theorem lp_reckon2 {X : Mx} {l : Launch} {G : Gl} {A : Nat → Prop} {Q : State → Prop} {n : Nat} {ad : Nat → Nat} (C : Cx X l G A "OddHours$Calendar" cX0_reckon 4 none (rmx 3 65 0 0)) (hn : 6 ≤ n) {ic md : Nat → Int32} (hP : CalP ic md) (E0 : Nat → va_E) (h01 : E0 1 = ob 0 (rfs ad [2, 3, 4, 5]) ic) (x1 : Int32) (hx1 : x1.toInt = MSf md 12)
    (kont : ∀ (E : Nat → va_E) (ld ys : Nat → Int32) (x2 : Int32), E 4 = aI G 100 ld → E 5 = aI G 101 ys → (∀ j, j < 100 → (ld j).toInt = LPf (ic 4).toInt (ic 5).toInt j) → (∀ j, j < 101 → (ys j).toInt = YSf md (ic 4).toInt (ic 5).toInt j) → (∀ j, j ≠ 4 → j ≠ 5 → E j = E0 j) → V X G A 4 Q n ad 0 0 E 112 [(0, .ref (ad 1)), (1, .int x1), (2, .int x2)] []) :
    ∀ (t k : Nat) (E : Nat → va_E) (ld ys : Nat → Int32) (x2 : Int32), k + t = 100 → x2.toInt = (k : Int) → E 4 = aI G 100 ld → E 5 = aI G 101 ys → (∀ j, j < k → (ld j).toInt = LPf (ic 4).toInt (ic 5).toInt j) → (∀ j, j < k + 1 → (ys j).toInt = YSf md (ic 4).toInt (ic 5).toInt j) → (∀ j, j ≠ 4 → j ≠ 5 → E j = E0 j) → V X G A 4 Q n ad 0 0 E 34 [(0, .ref (ad 1)), (1, .int x1), (2, .int x2)] [] := by
  intro t
  induction t with
  | zero =>
    intro k E ld ys x2 hk hx2 hE4 hE5 hil hiy hfr
    have hE1 := (hfr 1 (by decide) (by decide)).trans h01
    refine v_iload_n C 2 dX0_reckon_34 rfl rfl ?_
    refine v_bipush (v := 100) C dX0_reckon_35 (by decide) ?_
    refine b_icmp_ge C 112 dX0_reckon_37 (by decide) hx2 (show (100 : Int32).toInt = 100 by decide) (fun c1 => ?_) (fun c1 => by exfalso; omega)
    exact kont E ld ys x2 hE4 hE5 (fun j hj => hil j (by omega)) (fun j hj => hiy j (by omega)) hfr
  | succ t ih =>
    intro k E ld ys x2 hk hx2 hE4 hE5 hil hiy hfr
    have hE1 := (hfr 1 (by decide) (by decide)).trans h01
    refine v_iload_n C 2 dX0_reckon_34 rfl rfl ?_
    refine v_bipush (v := 100) C dX0_reckon_35 (by decide) ?_
    refine b_icmp_ge C 112 dX0_reckon_37 (by decide) hx2 (show (100 : Int32).toInt = 100 by decide) (fun c1 => by exfalso; omega) (fun c1 => ?_)
    have q4 := hP.2.1
    have q5 := hP.2.2.1
    have qM := MS_b hP.1 12 (by omega)
    have qY := YS_b (a := (ic 4).toInt) (b := (ic 5).toInt) hP.1 k
    refine v_iload_n C 2 dX0_reckon_40 rfl rfl ?_
    refine v_aload_n C 0 dX0_reckon_41 rfl rfl ?_
    refine v_geti (v := ic 4) C 1 dX0_reckon_42 fX0_24 (by omega) hE1 rfl rfl ?_
    refine v_cSNp C dX0_reckon_45 (List.mem_of_getElem? (i := 0) rfl) mX8_rest (c_rest l G n ad _ x2 (ic 4)) ⟨by decide, by decide⟩ rfl (Nat.le_of_ble_eq_true rfl) ⟨Nat.zero_le _, Nat.zero_le _⟩ (fun r3 hp2 => ?_)
    have hp2 : r3.toInt = (k : Int) % (ic 4).toInt := by rw [hp2, if_pos (by omega), hx2]
    refine b_if_ne C 66 dX0_reckon_48 (by decide) hp2 (fun c4 => ?_) (fun c4 => ?_)
    · refine v_iconst (v := 0) C dX0_reckon_66 (by decide) ?_
      refine v_istore_n (lv' := [(0, .ref (ad 1)), (1, .int x1), (2, .int x2), (3, .int 0)]) C [1, 2, 3, 0] dX0_reckon_67 rfl (by decide) rfl ?_
      refine v_aload_n C 0 dX0_reckon_68 rfl rfl ?_
      refine v_getr C 1 dX0_reckon_69 fX0_18 (by omega) hE1 rfl rfl ?_
      refine v_iload_n C 2 dX0_reckon_72 rfl rfl ?_
      refine v_iload_n C 3 dX0_reckon_73 rfl rfl ?_
      refine b_if_eq C 81 dX0_reckon_74 (by decide) (show (0 : Int32).toInt = 0 by decide) (fun c5 => ?_) (fun c5 => absurd c5 (by decide))
      refine v_iconst (v := 0) C dX0_reckon_81 (by decide) ?_
      refine v_ast C 4 dX0_reckon_82 (by omega) hE4 (ti_in hx2 (by omega) (by omega)) (fun E6 hE6_4 oE6 => ?_)
      rw [ti_cl hx2, show Int.toNat (k : Int) = k by omega] at hE6_4
      have hE6_1 := (oE6 1 (by decide)).trans hE1
      have hE6_5 := (oE6 5 (by decide)).trans hE5
      refine v_aload_n C 0 dX0_reckon_83 rfl rfl ?_
      refine v_getr C 1 dX0_reckon_84 fX0_21 (by omega) hE6_1 rfl rfl ?_
      refine v_iload_n C 2 dX0_reckon_87 rfl rfl ?_
      refine v_iconst (v := 1) C dX0_reckon_88 (by decide) ?_
      refine v_iadd C dX0_reckon_89 ?_
      refine v_top (fun x7 ex7 => ?_)
      have hx7 : x7.toInt = ((k : Int) + 1) := by rw [ex7]; exact ti_add hx2 (show (1 : Int32).toInt = 1 by decide) (by omega) (by omega)
      refine v_aload_n C 0 dX0_reckon_90 rfl rfl ?_
      refine v_getr C 1 dX0_reckon_91 fX0_21 (by omega) hE6_1 rfl rfl ?_
      refine v_iload_n C 2 dX0_reckon_94 rfl rfl ?_
      have qk := hiy k (by omega)
      refine v_ald (v := ys k) C 5 dX0_reckon_95 (by omega) hE6_5 (ti_in hx2 (by omega) (by omega)) (by rw [ti_cl hx2, show Int.toNat (k : Int) = k by omega]) ?_
      refine v_iload_n C 1 dX0_reckon_96 rfl rfl ?_
      refine v_iadd C dX0_reckon_97 ?_
      refine v_top (fun x8 ex8 => ?_)
      have hx8 : x8.toInt = ((ys k).toInt + (MSf md 12)) := by rw [ex8]; exact ti_add (rfl : Int32.toInt (ys k) = _) hx1 (by omega) (by omega)
      have hx8 : x8.toInt = (YSf md (ic 4).toInt (ic 5).toInt k + MSf md 12) := hx8.trans (by rw [qk])
      refine v_aload_n C 0 dX0_reckon_98 rfl rfl ?_
      refine v_getr C 1 dX0_reckon_99 fX0_18 (by omega) hE6_1 rfl rfl ?_
      refine v_iload_n C 2 dX0_reckon_102 rfl rfl ?_
      refine v_ald (v := 0) C 4 dX0_reckon_103 (by omega) hE6_4 (ti_in hx2 (by omega) (by omega)) (by rw [ti_cl hx2, show Int.toNat (k : Int) = k by omega, pk_us]) ?_
      refine v_iadd C dX0_reckon_104 ?_
      refine v_top (fun x9 ex9 => ?_)
      have hx9 : x9.toInt = ((YSf md (ic 4).toInt (ic 5).toInt k + MSf md 12) + 0) := by rw [ex9]; exact ti_add hx8 (show (0 : Int32).toInt = 0 by decide) (by omega) (by omega)
      refine v_ast C 5 dX0_reckon_105 (by omega) hE6_5 (ti_in hx7 (by omega) (by omega)) (fun E10 hE10_5 oE10 => ?_)
      rw [ti_cl hx7, show Int.toNat ((k : Int) + 1) = k + 1 by omega] at hE10_5
      have hE10_1 := (oE10 1 (by decide)).trans hE6_1
      have hE10_4 := (oE10 4 (by decide)).trans hE6_4
      obtain ⟨x11, ex11⟩ : ∃ y : Int32, y = x2 + 1 := ⟨_, rfl⟩
      have hx11 : x11.toInt = ((k : Int) + 1) := by rw [ex11]; exact ti_add hx2 (show (1 : Int32).toInt = 1 by decide) (by omega) (by omega)
      refine v_iinc (v := x11) (lv' := [(0, .ref (ad 1)), (1, .int x1), (2, .int x11), (3, .int 0)]) C 2 [1, 2, 0, 3] dX0_reckon_106 rfl (ex11.symm) (by decide) rfl ?_
      refine v_goto C 34 dX0_reckon_109 (by decide) ?_
      refine v_sub (lv' := [(0, .ref (ad 1)), (1, .int x1), (2, .int x11)]) [0, 1, 2] rfl ?_
      have hl12 : LPf (ic 4).toInt (ic 5).toInt k = 0 := if_neg (by omega)
      exact ih (k + 1) _ _ _ x11 (by omega) (by rw [hx11]; omega) hE10_4 hE10_5 (fun j hj => by by_cases h : j = k; (subst h; rw [pk_us, hl12]; decide); (rw [pk_un h]; exact hil j (by omega))) (fun j hj => by by_cases h : j = k + 1; (subst h; rw [pk_us]; show _ = YSf md (ic 4).toInt (ic 5).toInt k + MSf md 12 + LPf (ic 4).toInt (ic 5).toInt k; rw [hx9]; omega); (rw [pk_un h]; exact hiy j (by omega))) (fun j h4 h5 => (oE10 j h5).trans ((oE6 j h4).trans (hfr j h4 h5)))
    · refine v_iload_n C 2 dX0_reckon_51 rfl rfl ?_
      refine v_aload_n C 0 dX0_reckon_52 rfl rfl ?_
      refine v_geti (v := ic 5) C 1 dX0_reckon_53 fX0_28 (by omega) hE1 rfl rfl ?_
      refine v_cSNp C dX0_reckon_56 (List.mem_of_getElem? (i := 0) rfl) mX8_rest (c_rest l G n ad _ x2 (ic 5)) ⟨by decide, by decide⟩ rfl (Nat.le_of_ble_eq_true rfl) ⟨Nat.zero_le _, Nat.zero_le _⟩ (fun r14 hp13 => ?_)
      have hp13 : r14.toInt = (k : Int) % (ic 5).toInt := by rw [hp13, if_pos (by omega), hx2]
      refine b_if_eq C 66 dX0_reckon_59 (by decide) hp13 (fun c15 => ?_) (fun c15 => ?_)
      · refine v_iconst (v := 0) C dX0_reckon_66 (by decide) ?_
        refine v_istore_n (lv' := [(0, .ref (ad 1)), (1, .int x1), (2, .int x2), (3, .int 0)]) C [1, 2, 3, 0] dX0_reckon_67 rfl (by decide) rfl ?_
        refine v_aload_n C 0 dX0_reckon_68 rfl rfl ?_
        refine v_getr C 1 dX0_reckon_69 fX0_18 (by omega) hE1 rfl rfl ?_
        refine v_iload_n C 2 dX0_reckon_72 rfl rfl ?_
        refine v_iload_n C 3 dX0_reckon_73 rfl rfl ?_
        refine b_if_eq C 81 dX0_reckon_74 (by decide) (show (0 : Int32).toInt = 0 by decide) (fun c16 => ?_) (fun c16 => absurd c16 (by decide))
        refine v_iconst (v := 0) C dX0_reckon_81 (by decide) ?_
        refine v_ast C 4 dX0_reckon_82 (by omega) hE4 (ti_in hx2 (by omega) (by omega)) (fun E17 hE17_4 oE17 => ?_)
        rw [ti_cl hx2, show Int.toNat (k : Int) = k by omega] at hE17_4
        have hE17_1 := (oE17 1 (by decide)).trans hE1
        have hE17_5 := (oE17 5 (by decide)).trans hE5
        refine v_aload_n C 0 dX0_reckon_83 rfl rfl ?_
        refine v_getr C 1 dX0_reckon_84 fX0_21 (by omega) hE17_1 rfl rfl ?_
        refine v_iload_n C 2 dX0_reckon_87 rfl rfl ?_
        refine v_iconst (v := 1) C dX0_reckon_88 (by decide) ?_
        refine v_iadd C dX0_reckon_89 ?_
        refine v_top (fun x18 ex18 => ?_)
        have hx18 : x18.toInt = ((k : Int) + 1) := by rw [ex18]; exact ti_add hx2 (show (1 : Int32).toInt = 1 by decide) (by omega) (by omega)
        refine v_aload_n C 0 dX0_reckon_90 rfl rfl ?_
        refine v_getr C 1 dX0_reckon_91 fX0_21 (by omega) hE17_1 rfl rfl ?_
        refine v_iload_n C 2 dX0_reckon_94 rfl rfl ?_
        have qk := hiy k (by omega)
        refine v_ald (v := ys k) C 5 dX0_reckon_95 (by omega) hE17_5 (ti_in hx2 (by omega) (by omega)) (by rw [ti_cl hx2, show Int.toNat (k : Int) = k by omega]) ?_
        refine v_iload_n C 1 dX0_reckon_96 rfl rfl ?_
        refine v_iadd C dX0_reckon_97 ?_
        refine v_top (fun x19 ex19 => ?_)
        have hx19 : x19.toInt = ((ys k).toInt + (MSf md 12)) := by rw [ex19]; exact ti_add (rfl : Int32.toInt (ys k) = _) hx1 (by omega) (by omega)
        have hx19 : x19.toInt = (YSf md (ic 4).toInt (ic 5).toInt k + MSf md 12) := hx19.trans (by rw [qk])
        refine v_aload_n C 0 dX0_reckon_98 rfl rfl ?_
        refine v_getr C 1 dX0_reckon_99 fX0_18 (by omega) hE17_1 rfl rfl ?_
        refine v_iload_n C 2 dX0_reckon_102 rfl rfl ?_
        refine v_ald (v := 0) C 4 dX0_reckon_103 (by omega) hE17_4 (ti_in hx2 (by omega) (by omega)) (by rw [ti_cl hx2, show Int.toNat (k : Int) = k by omega, pk_us]) ?_
        refine v_iadd C dX0_reckon_104 ?_
        refine v_top (fun x20 ex20 => ?_)
        have hx20 : x20.toInt = ((YSf md (ic 4).toInt (ic 5).toInt k + MSf md 12) + 0) := by rw [ex20]; exact ti_add hx19 (show (0 : Int32).toInt = 0 by decide) (by omega) (by omega)
        refine v_ast C 5 dX0_reckon_105 (by omega) hE17_5 (ti_in hx18 (by omega) (by omega)) (fun E21 hE21_5 oE21 => ?_)
        rw [ti_cl hx18, show Int.toNat ((k : Int) + 1) = k + 1 by omega] at hE21_5
        have hE21_1 := (oE21 1 (by decide)).trans hE17_1
        have hE21_4 := (oE21 4 (by decide)).trans hE17_4
        obtain ⟨x22, ex22⟩ : ∃ y : Int32, y = x2 + 1 := ⟨_, rfl⟩
        have hx22 : x22.toInt = ((k : Int) + 1) := by rw [ex22]; exact ti_add hx2 (show (1 : Int32).toInt = 1 by decide) (by omega) (by omega)
        refine v_iinc (v := x22) (lv' := [(0, .ref (ad 1)), (1, .int x1), (2, .int x22), (3, .int 0)]) C 2 [1, 2, 0, 3] dX0_reckon_106 rfl (ex22.symm) (by decide) rfl ?_
        refine v_goto C 34 dX0_reckon_109 (by decide) ?_
        refine v_sub (lv' := [(0, .ref (ad 1)), (1, .int x1), (2, .int x22)]) [0, 1, 2] rfl ?_
        have hl23 : LPf (ic 4).toInt (ic 5).toInt k = 0 := if_neg (by omega)
        exact ih (k + 1) _ _ _ x22 (by omega) (by rw [hx22]; omega) hE21_4 hE21_5 (fun j hj => by by_cases h : j = k; (subst h; rw [pk_us, hl23]; decide); (rw [pk_un h]; exact hil j (by omega))) (fun j hj => by by_cases h : j = k + 1; (subst h; rw [pk_us]; show _ = YSf md (ic 4).toInt (ic 5).toInt k + MSf md 12 + LPf (ic 4).toInt (ic 5).toInt k; rw [hx20]; omega); (rw [pk_un h]; exact hiy j (by omega))) (fun j h4 h5 => (oE21 j h5).trans ((oE17 j h4).trans (hfr j h4 h5)))
      · refine v_iconst (v := 1) C dX0_reckon_62 (by decide) ?_
        refine v_goto C 67 dX0_reckon_63 (by decide) ?_
        refine v_istore_n (lv' := [(0, .ref (ad 1)), (1, .int x1), (2, .int x2), (3, .int 1)]) C [1, 2, 3, 0] dX0_reckon_67 rfl (by decide) rfl ?_
        refine v_aload_n C 0 dX0_reckon_68 rfl rfl ?_
        refine v_getr C 1 dX0_reckon_69 fX0_18 (by omega) hE1 rfl rfl ?_
        refine v_iload_n C 2 dX0_reckon_72 rfl rfl ?_
        refine v_iload_n C 3 dX0_reckon_73 rfl rfl ?_
        refine b_if_eq C 81 dX0_reckon_74 (by decide) (show (1 : Int32).toInt = 1 by decide) (fun c24 => absurd c24 (by decide)) (fun c24 => ?_)
        refine v_iconst (v := 1) C dX0_reckon_77 (by decide) ?_
        refine v_goto C 82 dX0_reckon_78 (by decide) ?_
        refine v_ast C 4 dX0_reckon_82 (by omega) hE4 (ti_in hx2 (by omega) (by omega)) (fun E25 hE25_4 oE25 => ?_)
        rw [ti_cl hx2, show Int.toNat (k : Int) = k by omega] at hE25_4
        have hE25_1 := (oE25 1 (by decide)).trans hE1
        have hE25_5 := (oE25 5 (by decide)).trans hE5
        refine v_aload_n C 0 dX0_reckon_83 rfl rfl ?_
        refine v_getr C 1 dX0_reckon_84 fX0_21 (by omega) hE25_1 rfl rfl ?_
        refine v_iload_n C 2 dX0_reckon_87 rfl rfl ?_
        refine v_iconst (v := 1) C dX0_reckon_88 (by decide) ?_
        refine v_iadd C dX0_reckon_89 ?_
        refine v_top (fun x26 ex26 => ?_)
        have hx26 : x26.toInt = ((k : Int) + 1) := by rw [ex26]; exact ti_add hx2 (show (1 : Int32).toInt = 1 by decide) (by omega) (by omega)
        refine v_aload_n C 0 dX0_reckon_90 rfl rfl ?_
        refine v_getr C 1 dX0_reckon_91 fX0_21 (by omega) hE25_1 rfl rfl ?_
        refine v_iload_n C 2 dX0_reckon_94 rfl rfl ?_
        have qk := hiy k (by omega)
        refine v_ald (v := ys k) C 5 dX0_reckon_95 (by omega) hE25_5 (ti_in hx2 (by omega) (by omega)) (by rw [ti_cl hx2, show Int.toNat (k : Int) = k by omega]) ?_
        refine v_iload_n C 1 dX0_reckon_96 rfl rfl ?_
        refine v_iadd C dX0_reckon_97 ?_
        refine v_top (fun x27 ex27 => ?_)
        have hx27 : x27.toInt = ((ys k).toInt + (MSf md 12)) := by rw [ex27]; exact ti_add (rfl : Int32.toInt (ys k) = _) hx1 (by omega) (by omega)
        have hx27 : x27.toInt = (YSf md (ic 4).toInt (ic 5).toInt k + MSf md 12) := hx27.trans (by rw [qk])
        refine v_aload_n C 0 dX0_reckon_98 rfl rfl ?_
        refine v_getr C 1 dX0_reckon_99 fX0_18 (by omega) hE25_1 rfl rfl ?_
        refine v_iload_n C 2 dX0_reckon_102 rfl rfl ?_
        refine v_ald (v := 1) C 4 dX0_reckon_103 (by omega) hE25_4 (ti_in hx2 (by omega) (by omega)) (by rw [ti_cl hx2, show Int.toNat (k : Int) = k by omega, pk_us]) ?_
        refine v_iadd C dX0_reckon_104 ?_
        refine v_top (fun x28 ex28 => ?_)
        have hx28 : x28.toInt = ((YSf md (ic 4).toInt (ic 5).toInt k + MSf md 12) + 1) := by rw [ex28]; exact ti_add hx27 (show (1 : Int32).toInt = 1 by decide) (by omega) (by omega)
        refine v_ast C 5 dX0_reckon_105 (by omega) hE25_5 (ti_in hx26 (by omega) (by omega)) (fun E29 hE29_5 oE29 => ?_)
        rw [ti_cl hx26, show Int.toNat ((k : Int) + 1) = k + 1 by omega] at hE29_5
        have hE29_1 := (oE29 1 (by decide)).trans hE25_1
        have hE29_4 := (oE29 4 (by decide)).trans hE25_4
        obtain ⟨x30, ex30⟩ : ∃ y : Int32, y = x2 + 1 := ⟨_, rfl⟩
        have hx30 : x30.toInt = ((k : Int) + 1) := by rw [ex30]; exact ti_add hx2 (show (1 : Int32).toInt = 1 by decide) (by omega) (by omega)
        refine v_iinc (v := x30) (lv' := [(0, .ref (ad 1)), (1, .int x1), (2, .int x30), (3, .int 1)]) C 2 [1, 2, 0, 3] dX0_reckon_106 rfl (ex30.symm) (by decide) rfl ?_
        refine v_goto C 34 dX0_reckon_109 (by decide) ?_
        refine v_sub (lv' := [(0, .ref (ad 1)), (1, .int x1), (2, .int x30)]) [0, 1, 2] rfl ?_
        have hl31 : LPf (ic 4).toInt (ic 5).toInt k = 1 := if_pos ⟨by omega, by omega⟩
        exact ih (k + 1) _ _ _ x30 (by omega) (by rw [hx30]; omega) hE29_4 hE29_5 (fun j hj => by by_cases h : j = k; (subst h; rw [pk_us, hl31]; decide); (rw [pk_un h]; exact hil j (by omega))) (fun j hj => by by_cases h : j = k + 1; (subst h; rw [pk_us]; show _ = YSf md (ic 4).toInt (ic 5).toInt k + MSf md 12 + LPf (ic 4).toInt (ic 5).toInt k; rw [hx28]; omega); (rw [pk_un h]; exact hiy j (by omega))) (fun j h4 h5 => (oE29 j h5).trans ((oE25 j h4).trans (hfr j h4 h5)))

set_option maxRecDepth 20000 in
theorem c_reckon (l : Launch) (G : Gl) (n : Nat) (ad : Nat → Nat) (E : Nat → va_E) (hn : 6 ≤ n) {ic md ms ld ys : Nat → Int32} (hE1 : E 1 = ob 0 (rfs ad [2, 3, 4, 5]) ic) (hE2 : E 2 = aI G 12 md) (hE3 : E 3 = aI G 12 ms) (hE4 : E 4 = aI G 100 ld) (hE5 : E 5 = aI G 101 ys) (hP : CalP ic md) (hy0 : (ys 0).toInt = 0)  : CtV l G yX0_reckon cX0_reckon 4 3 65 n ad E [.ref (ad 1)] (fun E' => ∃ ms2 ld2 ys2 : Nat → Int32, E' 3 = aI G 12 ms2 ∧ E' 4 = aI G 100 ld2 ∧ E' 5 = aI G 101 ys2 ∧ CalF ic md ms2 ld2 ys2 ∧ ∀ j, j ≠ 3 → j ≠ 4 → j ≠ 5 → E' j = E j) := by
  refine CtV.of (by decide) (Nat.le_of_ble_eq_true rfl) (fun X A C => ?_)
  refine v_sub (lv' := [(0, .ref (ad 1))]) [0] rfl ?_
  refine v_iconst (v := 0) C dX0_reckon_0 (by decide) ?_
  refine v_istore_n (lv' := [(0, .ref (ad 1)), (1, .int 0)]) C [1, 0] dX0_reckon_1 rfl (by decide) rfl ?_
  refine v_iconst (v := 0) C dX0_reckon_2 (by decide) ?_
  refine v_istore_n (lv' := [(0, .ref (ad 1)), (1, .int 0), (2, .int 0)]) C [1, 2, 0] dX0_reckon_3 rfl (by decide) rfl ?_
  refine lp_reckon1 C hn hP E hE1 hE2 (fun E1 ms1 y1 y2 hy1 hM hMi hfr1 => ?_) 12 0 E ms 0 0 (by omega) (show (0 : Int32).toInt = 0 by decide) (show (0 : Int32).toInt = 0 by decide) hE3 (fun j hj => by omega) (fun j _ => rfl)
  refine v_iconst (v := 0) C dX0_reckon_32 (by decide) ?_
  refine v_istore_n (lv' := [(0, .ref (ad 1)), (1, .int y1), (2, .int 0)]) C [1, 2, 0] dX0_reckon_33 rfl (by decide) rfl ?_
  refine lp_reckon2 C hn hP E1 ((hfr1 1 (by decide)).trans hE1) y1 hy1 (fun E2 ld2 ys2 z2 hL hY hLi hYi hfr2 => ?_) 100 0 E1 ld ys 0 (by omega) (show (0 : Int32).toInt = 0 by decide) ((hfr1 4 (by decide)).trans hE4) ((hfr1 5 (by decide)).trans hE5) (fun j hj => by omega) (fun j hj => by rw [show j = 0 by omega, hy0]; rfl) (fun j _ _ => rfl)
  exact v_vret C dX0_reckon_112 rfl ⟨ms1, ld2, ys2, (hfr2 3 (by decide) (by decide)).trans hM, hL, hY, ⟨hMi, hLi, hYi⟩, fun j h3 h4 h5 => (hfr2 j h4 h5).trans (hfr1 j h3)⟩

